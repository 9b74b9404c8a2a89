/** The bounds that stand under "READING" and "A NIGHT", a test for each sentence. */
public final class BoundsOfNightsTest {
    private static final Check CHECK = new Check();
    private static final int DEEP = 2;

    public static void main(String[] args) {
        readingPaidWhereItIs();
        heatOfAReading();
        askedBackFromTheDeepShelfAlone();
        feeForAPromise();
        promiseOverByReading();
        roomForOneAskedBack();
        pinnedOneAskedBack();
        nightPaidWhereItIs();
        heatRoundedDown();
        promiseOneNightLess();
        coldestFirst();
        roomOnTheWayDown();
        hottestFirst();
        roomOnTheWayUp();
        roomMadeInTheSameNight();
        pinnedOnesStay();
        promisedOnesStay();
        movesUsedUp();
        movesDownAndUpTogether();
        staysUseUpNoMove();
        promisedByNightOnTheDeepShelf();
        CHECK.end();
    }

    private static void due(String call, long got, long want) {
        CHECK.due(call, got, want);
    }

    /** A deep block, promised for so many more nights. */
    private static HeatShelves promisedFor(int nights, int size) {
        HeatShelves x = Bound.onShelf(0, size);
        Bound.wish(x, DEEP);
        x.set(Bound.PROMISE, nights);
        due("it goes deep", x.pass(1), 1);
        due("promised", x.ofBlock(0, Bound.PROMISED), nights);
        return x;
    }

    private static void readingPaidWhereItIs() {
        CHECK.part("To read a block: its size times what a reading costs on its shelf is paid");
        int[] prices = {7, 2, 9};
        for (int shelf = 0; shelf < 3; shelf++) {
            HeatShelves x = Bound.onShelf(shelf, 3);
            x.set(Bound.READING_PRICE, 7);
            due("the first", x.read(0, 1), 3 * prices[shelf]);
            due("the next, on the shelf where it is then", x.read(0, 2), 6 * (shelf == 1 ? 2 : 7));
        }
        HeatShelves x = Bound.onShelf(DEEP, 3);
        x.set(Bound.READING_PRICE, 7);
        due("in one call", x.read(0, 3), 3 * 9 + 6 * 7);
    }

    private static void heatOfAReading() {
        CHECK.part("its heat becomes 1000 more, but at most 99999.");
        HeatShelves x = Bound.onShelf(0, 1);
        x.read(0, 1);
        due("1000 more", x.ofBlock(0, 1), 2000);
        x.read(0, 97);
        due("99000", x.ofBlock(0, 1), 99000);
        due("a reading in vain is paid too", x.set(Bound.READING_PRICE, 1), 0);
        due("cut", x.read(0, 2), 2);
        due("at most", x.ofBlock(0, 1), 99999);
        due("each is counted", x.ofBlock(0, 6), 100);
    }

    private static void askedBackFromTheDeepShelfAlone() {
        CHECK.part("If it is on the deep shelf, it is asked back");
        for (int shelf = 0; shelf < 3; shelf++) {
            HeatShelves x = Bound.onShelf(shelf, 1);
            x.read(0, 1);
            due("asked back from " + shelf, x.total(22), shelf == DEEP ? 1 : 0);
            due("where it is then", x.ofBlock(0, Bound.SHELF), shelf == 1 ? 1 : 0);
            due("how often it moved", x.ofBlock(0, Bound.MOVED), shelf == DEEP ? 1 : 0);
            x.read(0, 1);
            due("asked back once more", x.total(22), shelf == DEEP ? 1 : 0);
        }
    }

    private static void feeForAPromise() {
        CHECK.part("if it is promised for some more nights, its size times FEE times these nights is paid, too");
        int[] promises = {0, 1, 2, 30};
        int[] fees = {0, 1, 50};
        for (int promise : promises) {
            for (int fee : fees) {
                HeatShelves x = promisedFor(promise, 9);
                x.set(Bound.FEE, fee);
                due("paid for " + promise + " nights of " + fee, x.read(0, 1), 81 + 9 * fee * promise);
                due("fees", x.total(20), 9 * fee * promise);
                due("readings", x.total(19), 81);
            }
        }
        HeatShelves x = promisedFor(30, 9);
        x.pass(29);
        due("the last of 30 nights", x.read(0, 1), 81 + 18);
        x.undo();
        x.pass(1);
        due("none is left", x.read(0, 1), 81);
    }

    private static void promiseOverByReading() {
        CHECK.part("and the promise is over (also if it stays)");
        HeatShelves x = promisedFor(5, 9);
        x.read(0, 1);
        due("it moved, over", x.ofBlock(0, Bound.PROMISED), 0);
        x = promisedFor(5, 9);
        Bound.setRooms(x, 8, 8, 9);
        due("the fee once for two readings", x.read(0, 2), 81 + 90 + 81);
        due("it stays", x.ofBlock(0, Bound.SHELF), DEEP);
        due("over", x.ofBlock(0, Bound.PROMISED), 0);
        due("a stay is no move", x.ofBlock(0, Bound.MOVED), 1);
        due("asked back", x.total(22), 2);
    }

    private static void askedBack(int fast, int slow, int want) {
        HeatShelves x = promisedFor(3, 9);
        Bound.setRooms(x, fast, slow, 9);
        x.read(0, 1);
        due("rooms of " + fast + " and " + slow, x.ofBlock(0, Bound.SHELF), want);
        due("size there", x.shelf(want, 1), 9);
    }

    private static void roomForOneAskedBack() {
        CHECK.part("then it moves to the shelf 0 if there is room, otherwise to the shelf 1 if there is room, "
            + "otherwise it stays.");
        askedBack(9, 0, 0);
        askedBack(9, 9, 0);
        askedBack(8, 9, 1);
        askedBack(0, 9, 1);
        askedBack(8, 8, DEEP);
        askedBack(0, 0, DEEP);
    }

    private static void pinnedOneAskedBack() {
        CHECK.part("(A pinned block is asked back likewise.)");
        HeatShelves x = promisedFor(2, 9);
        x.pin(0, true);
        due("paid", x.read(0, 1), 81 + 36);
        due("it is fast", x.ofBlock(0, Bound.SHELF), 0);
        due("it is still pinned", x.ofBlock(0, 4), 1);
        due("asked back", x.total(22), 1);
    }

    private static void nightPaidWhereItIs() {
        CHECK.part("1. For each block its size times what a night costs on its shelf is paid.");
        HeatShelves x = Bound.onShelf(0, 9);
        x.add(3);
        Bound.wish(x, DEEP);
        x.pass(1);
        due("before it moves", x.total(18), 12 * 10);
        x.pass(1);
        due("after that", x.total(18), 12 * 10 + 12);
        due("none for no blocks", new HeatShelves().ifPassed(99, 0), 0);
    }

    private static void heatRoundedDown() {
        CHECK.part("2. The heat of each block becomes heat * FADE / 100 (rounded down)");
        HeatShelves x = Bound.onShelf(0, 1);
        x.set(Bound.FADE, 50);
        int[] halves = {500, 250, 125, 62, 31, 15, 7, 3, 1, 0, 0};
        for (int half : halves) {
            x.pass(1);
            due("half", x.ofBlock(0, 1), half);
        }
        x = Bound.onShelf(0, 1);
        x.set(Bound.FADE, 99);
        x.pass(4);
        due("each night by itself: 990, 980, 970, 960", x.ofBlock(0, 1), 960);
        x.pass(2);
        due("950, 940", x.ofBlock(0, 1), 940);
        x.set(Bound.FADE, 10);
        x.pass(2);
        due("94, 9", x.ofBlock(0, 1), 9);
    }

    private static void promiseOneNightLess() {
        CHECK.part("and each promise is for 1 night less, if it is for any.");
        HeatShelves x = promisedFor(2, 1);
        x.pass(1);
        due("1", x.ofBlock(0, Bound.PROMISED), 1);
        x.pass(1);
        due("0", x.ofBlock(0, Bound.PROMISED), 0);
        x.pass(1);
        due("still 0", x.ofBlock(0, Bound.PROMISED), 0);
        due("so that no fee is less than nothing", x.read(0, 1), 9);
    }

    /** Blocks 0 to 3 on a shelf, with the heats 2000, 1000, 1000 and 3000, and one move in a night. */
    private static HeatShelves fourOn(int shelf, int wanted) {
        HeatShelves x = Bound.onShelf(shelf, 1);
        for (int faster = 0; faster < shelf; faster++) {
            x.set(Bound.ROOM + faster, 0);
        }
        for (int i = 0; i < 3; i++) {
            x.add(1);
        }
        x.read(0, 1);
        x.read(3, 2);
        for (int faster = 0; faster < shelf; faster++) {
            x.set(Bound.ROOM + faster, 20);
        }
        Bound.wish(x, wanted);
        x.set(Bound.MOVES, 1);
        return x;
    }

    private static void movesInTurn(HeatShelves x, int shelf, int... turns) {
        for (int block : turns) {
            due("it has not moved before", x.ofBlock(block, Bound.MOVED), 0);
            due("one move", x.pass(1), 1);
            due("the turn of " + block, x.ofBlock(block, Bound.SHELF), shelf);
        }
    }

    private static void coldestFirst() {
        CHECK.part("the coldest first (with the least heat, of several the one with the least number)");
        movesInTurn(fourOn(0, 1), 1, 1, 2, 0, 3);
        movesInTurn(fourOn(0, DEEP), DEEP, 1, 2, 0, 3);
        movesInTurn(fourOn(1, DEEP), DEEP, 1, 2, 0, 3);
    }

    private static void hottestFirst() {
        CHECK.part("the hottest first (with the greatest heat, of several the one with the least number)");
        movesInTurn(fourOn(1, 0), 0, 3, 0, 1, 2);
        movesInTurn(fourOn(DEEP, 0), 0, 3, 0, 1, 2);
        movesInTurn(fourOn(DEEP, 1), 1, 3, 0, 1, 2);
    }

    /** Where a block of the size 9 is after a night, with so much room on the three shelves. */
    private static void moved(int from, int wanted, int[] rooms, int want) {
        HeatShelves x = Bound.onShelf(from, 9);
        Bound.wish(x, wanted);
        Bound.setRooms(x, rooms[0], rooms[1], rooms[2]);
        StringBuilder name = new StringBuilder("from ").append(from).append(" to ").append(wanted);
        for (int room : rooms) {
            name.append(", room ").append(room);
        }
        due(name + ": moves", x.pass(1), from == want ? 0 : 1);
        due(name + ": shelf", x.ofBlock(0, Bound.SHELF), want);
        due(name + ": how often", x.ofBlock(0, Bound.MOVED), from == want ? 0 : 1);
    }

    private static void roomOnTheWayDown() {
        CHECK.part("each one moves to its wanted shelf if there is room; otherwise, if it is on the shelf 0 and "
            + "wants the shelf 2, to the shelf 1 if there is room there; otherwise it stays.");
        moved(0, DEEP, new int[] {9, 0, 9}, DEEP);
        moved(0, DEEP, new int[] {9, 9, 9}, DEEP);
        moved(0, DEEP, new int[] {9, 9, 8}, 1);
        moved(0, DEEP, new int[] {9, 8, 8}, 0);
        moved(0, 1, new int[] {9, 9, 0}, 1);
        moved(0, 1, new int[] {9, 8, 9}, 0);
        moved(1, DEEP, new int[] {0, 9, 9}, DEEP);
        moved(1, DEEP, new int[] {9, 200, 8}, 1);
    }

    private static void roomOnTheWayUp() {
        CHECK.part("otherwise, if it is on the shelf 2 and wants the shelf 0, to the shelf 1 if there is room there; "
            + "otherwise it stays.");
        moved(DEEP, 0, new int[] {9, 0, 9}, 0);
        moved(DEEP, 0, new int[] {9, 9, 9}, 0);
        moved(DEEP, 0, new int[] {8, 9, 9}, 1);
        moved(DEEP, 0, new int[] {8, 8, 9}, DEEP);
        moved(DEEP, 1, new int[] {0, 9, 9}, 1);
        moved(DEEP, 1, new int[] {9, 8, 200}, DEEP);
        moved(1, 0, new int[] {9, 9, 0}, 0);
        moved(1, 0, new int[] {8, 200, 9}, 1);
    }

    private static void roomMadeInTheSameNight() {
        CHECK.part("each one moves to its wanted shelf if there is room: room that others left in that night");
        HeatShelves x = Bound.onShelf(0, 9);
        x.set(Bound.ROOM, 9);
        x.add(9);
        Bound.setRooms(x, 9, 9, 9);
        x.read(0, 1);
        x.set(Bound.HOT, 20000);
        x.set(Bound.WARM, 1500);
        due("1 goes deep, 0 takes its room", x.pass(1), 2);
        due("0", x.ofBlock(0, Bound.SHELF), 1);
        due("1", x.ofBlock(1, Bound.SHELF), DEEP);

        x = Bound.onShelf(DEEP, 9);
        x.set(Bound.ROOM, 0);
        x.add(9);
        Bound.setRooms(x, 9, 9, 9);
        x.read(1, 1);
        x.set(Bound.WARM, 0);
        x.set(Bound.HOT, 1500);
        due("1 goes up, 0 takes its room", x.pass(1), 2);
        due("0", x.ofBlock(0, Bound.SHELF), 1);
        due("1", x.ofBlock(1, Bound.SHELF), 0);

        x = twoDownTwoUp();
        Bound.setRooms(x, 2, 4, 0);
        due("0 and 1 go down, 2 and 3 take their room", x.pass(1), 4);
        x = twoDownTwoUp();
        Bound.setRooms(x, 2, 2, 0);
        due("down comes before up: neither has room", x.pass(1), 0);
    }

    private static void pinnedOnesStay() {
        CHECK.part("Blocks that are pinned ... do not move by night.");
        for (int from = 0; from < 3; from++) {
            for (int wanted = 0; wanted < 3; wanted++) {
                HeatShelves x = Bound.onShelf(from, 1);
                Bound.wish(x, wanted);
                x.pin(0, true);
                due("pinned", x.pass(9), 0);
                due("shelf", x.ofBlock(0, Bound.SHELF), from);
                x.pin(0, false);
                due("not pinned any more", x.pass(9), from == wanted ? 0 : 1);
                due("shelf", x.ofBlock(0, Bound.SHELF), wanted);
            }
        }
    }

    /** The night's second step comes before its moves, so that the last night of a promise does not hold. */
    private static void promisedOnesStay() {
        CHECK.part("blocks that are promised for some more nights, do not move by night.");
        int[] promises = {0, 1, 2, 3, 30};
        for (int promise : promises) {
            for (int wanted = 0; wanted < DEEP; wanted++) {
                HeatShelves x = promisedFor(promise, 1);
                Bound.wish(x, wanted);
                int held = Math.max(promise - 1, 0);
                due("the next move", x.nextMove(), held + 1);
                if (held > 0) {
                    due("held", x.pass(held), 0);
                    due("promised for one night more", x.ofBlock(0, Bound.PROMISED), 1);
                }
                due("then it moves", x.pass(1), 1);
                due("shelf", x.ofBlock(0, Bound.SHELF), wanted);
            }
        }
    }

    private static void movesUsedUp() {
        CHECK.part("When MOVES blocks have moved in a night, no more do");
        int[] counts = {0, 1, 4, 23, 24};
        for (int count : counts) {
            HeatShelves x = Bound.withBlocks(20, 1);
            for (int i = 0; i < 4; i++) {
                x.add(1);
            }
            Bound.wish(x, DEEP);
            x.set(Bound.MOVES, count);
            due("moves of " + count, x.pass(1), count);
            due("deep ones", x.shelf(DEEP, 2), count);
            due("moves by night", x.total(21), count);
            due("the next night has its own", x.pass(1), Math.min(count, 24 - count));
        }
    }

    /** Blocks 0 and 1 go from fast to slow, 2 and 3 from slow to fast. */
    private static HeatShelves twoDownTwoUp() {
        HeatShelves x = new HeatShelves();
        x.set(Bound.FADE, 100);
        x.set(Bound.ROOM, 2);
        for (int i = 0; i < 4; i++) {
            x.add(1);
        }
        x.set(Bound.ROOM, 20);
        x.read(2, 4);
        x.read(3, 4);
        return x;
    }

    private static void movesDownAndUpTogether() {
        CHECK.part("When MOVES blocks have moved in a night (down and up, together), no more do");
        for (int count = 0; count <= 5; count++) {
            HeatShelves x = twoDownTwoUp();
            x.set(Bound.MOVES, count);
            due("moves of " + count, x.pass(1), Math.min(count, 4));
            for (int block = 0; block < 4; block++) {
                due("block " + block + " of " + count, x.ofBlock(block, Bound.MOVED), block < count ? 1 : 0);
            }
        }
    }

    private static void staysUseUpNoMove() {
        CHECK.part("a block that stays uses up none.");
        HeatShelves x = new HeatShelves();
        x.set(Bound.FADE, 100);
        x.add(9);
        x.add(8);
        x.add(1);
        x.set(Bound.MOVES, 1);
        Bound.wish(x, DEEP);
        Bound.setRooms(x, 18, 0, 1);
        due("0 and 1 stay, 2 moves", x.pass(1), 1);
        due("2", x.ofBlock(2, Bound.SHELF), DEEP);
        x.undo();
        Bound.setRooms(x, 18, 0, 9);
        x.pin(0, true);
        due("a pinned one uses up none", x.pass(1), 1);
        due("1", x.ofBlock(1, Bound.SHELF), DEEP);

        x = twoDownTwoUp();
        x.set(Bound.MOVES, 1);
        Bound.setRooms(x, 3, 2, 0);
        due("0 and 1 have no room, 2 goes up", x.pass(1), 1);
        due("2", x.ofBlock(2, Bound.SHELF), 0);
    }

    private static void promisedByNightOnTheDeepShelf() {
        CHECK.part("When a block comes to the shelf 2 by night, it is promised to stay for PROMISE nights "
            + "(the first of them is the next one).");
        HeatShelves x = promisedFor(30, 1);
        x.pass(1);
        due("the first is the next one", x.ofBlock(0, Bound.PROMISED), 29);
        x.set(Bound.PROMISE, 3);
        due("an earlier promise stays as it is", x.ofBlock(0, Bound.PROMISED), 29);
        x.read(0, 1);
        x.pass(1);
        due("it comes again, with the present setting", x.ofBlock(0, Bound.PROMISED), 3);

        x = Bound.onShelf(1, 1);
        Bound.wish(x, DEEP);
        x.pass(1);
        due("from the slow shelf", x.ofBlock(0, Bound.PROMISED), 5);
        x = Bound.onShelf(0, 1);
        Bound.wish(x, 1);
        x.pass(1);
        due("not on the slow shelf", x.ofBlock(0, Bound.PROMISED), 0);
        x = Bound.onShelf(DEEP, 1);
        due("not when it is added", x.ofBlock(0, Bound.PROMISED), 0);
        x.pass(1);
        due("not when it stays", x.ofBlock(0, Bound.PROMISED), 0);
    }
}
