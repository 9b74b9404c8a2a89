import java.util.Arrays;

/** The bounds in the promises 1 to 7 and 14 to 21, a test for each sentence. */
public final class BoundsOfCallsTest {
    private static final Check CHECK = new Check();
    private static final Bound BOUND = new Bound(CHECK);
    private static final int LEAST = Integer.MIN_VALUE;
    private static final int MOST = Integer.MAX_VALUE;
    private static final int[] NO_BLOCKS = {-1, 5, 999, 1000, LEAST, MOST};

    public static void main(String[] args) {
        newObject();
        addRange();
        addFull();
        addAboveNumber999();
        removeUnknown();
        removeIsFree();
        removeOneOf24();
        sumsWithoutOneOf24();
        nightAfterOneOf24();
        readUnknown();
        readTimes();
        pinUnknown();
        pinAlready();
        pinCounts();
        passNights();
        pass5000Nights();
        setUnknown();
        setOutOfRange();
        setRoomBelowSize();
        setSameValue();
        blockRanks();
        ofBlockUnknown();
        ofBlockWhat();
        whyPinned();
        whyPromised();
        whyOnItsWantedShelf();
        whyMovesUsedUp();
        whyNoRoom();
        shelfUnknown();
        shelfWhat();
        totalWhat();
        ifPassedNights();
        ifPassedWhat();
        nextMoveNights();
        bestHotNights();
        bestHotWhat();
        bestHotMultiples();
        bestHotOfSeveral();
        cheapestUnknown();
        cheapestReadings();
        cheapestOfSeveral();
        greatestCountOfNights();
        greatestAccounts();
        last512Calls();
        CHECK.end();
    }

    private static void due(String call, long got, long want) {
        CHECK.due(call, got, want);
    }

    private static void newObject() {
        CHECK.part("Creates empty shelves, with nothing paid.");
        HeatShelves x = new HeatShelves();
        for (int what = Bound.SETTINGS; what <= 26; what++) {
            due("total(" + what + ")", x.total(what), 0);
        }
        for (int shelf = 0; shelf < 3; shelf++) {
            for (int what = 1; what <= 4; what++) {
                due("shelf(" + shelf + ", " + what + ")", x.shelf(shelf, what), 0);
            }
        }
        due("block(0)", x.block(0), -5);
        due("ofBlock(0, 0)", x.ofBlock(0, 0), -1);
    }

    private static void addRange() {
        CHECK.part("add: size 1 to 9");
        HeatShelves x = new HeatShelves();
        due("add(1)", x.add(1), 0);
        due("add(9)", x.add(9), 1);
        for (int size : new int[] {0, 10, -1, LEAST, MOST}) {
            BOUND.changesNothing("add(" + size + ")", y -> y.add(size), -2);
        }
    }

    private static void addFull() {
        CHECK.part("FULL if there are 24 blocks, or no shelf has room");
        HeatShelves x = Bound.withBlocks(24, 1);
        due("24 blocks", x.add(1), -3);
        x.remove(0);
        due("23 blocks", x.add(1), 24);
        x = new HeatShelves();
        Bound.setRooms(x, 0, 0, 8);
        due("no shelf has room for 9", x.add(9), -3);
        due("one has for 8", x.add(8), 0);
        due("none has for 1", x.add(1), -3);
        BOUND.changesNothing(BoundsOfCallsTest::fillShelves, "add(1)", y -> y.add(1), -3);
        x = Bound.after(BoundsOfCallsTest::fillShelves);
        due("blocks", x.total(15), 3);
    }

    private static void fillShelves(HeatShelves x) {
        Bound.setRooms(x, 9, 9, 9);
        x.add(9);
        x.add(9);
        x.add(9);
    }

    /** It takes more than 512 calls to get there, so that the document leaves the answer free; it is kept all the same. */
    private static void addAboveNumber999() {
        CHECK.part("FULL if its number would be above 999.");
        HeatShelves x = new HeatShelves();
        for (int number = 0; number < 999; number++) {
            due("add(1)", x.add(1), number);
            due("remove", x.remove(number), 0);
        }
        due("the last number", x.add(1), 999);
        due("none is left", x.add(1), -3);
        x.remove(999);
        due("none is left of no blocks", x.add(1), -3);
        due("a wrong size comes first", x.add(0), -2);
        due("blocks so far", x.total(16), 1000);
    }

    private static void removeUnknown() {
        CHECK.part("remove: Returns the shelf on which it was; UNKNOWN.");
        for (int block : NO_BLOCKS) {
            BOUND.changesNothing("remove(" + block + ")", x -> x.remove(block), -1);
        }
        BOUND.changesNothing(Bound::none, "remove(0)", x -> x.remove(0), -1);
        BOUND.changesNothing(BoundsOfCallsTest::fewWithoutTwo, "remove(2) again", x -> x.remove(2), -1);
        for (int shelf = 0; shelf < 3; shelf++) {
            due("remove(0)", Bound.onShelf(shelf, 9).remove(0), shelf);
        }
        HeatShelves x = Bound.withBlocks(24, 1);
        due("the last one", x.remove(23), 1);
        due("the first one", x.remove(0), 0);
        due("the next one is there", x.ofBlock(1, 0), 1);
    }

    private static void fewWithoutTwo(HeatShelves x) {
        Bound.few(x);
        x.remove(2);
    }

    private static void removeIsFree() {
        CHECK.part("Removes a block. Nothing is paid for that.");
        HeatShelves x = Bound.after(Bound::few);
        due("2 is deep", x.ofBlock(2, Bound.SHELF), 2);
        due("and promised", x.ofBlock(2, Bound.PROMISED), 5);
        int paid = x.total(18) + x.total(19) + x.total(20);
        due("remove(2)", x.remove(2), 2);
        due("paid", x.total(18) + x.total(19) + x.total(20), paid);
        due("nothing was asked back", x.total(22), 1);
    }

    /** 24 blocks of many heats, on all shelves; some are pinned, or promised for 4 nights or for 5. The last one is both. */
    private static HeatShelves fullHouse() {
        HeatShelves x = new HeatShelves();
        x.set(Bound.FADE, 100);
        x.set(Bound.MOVES, 24);
        x.set(Bound.ROOM, 200);
        for (int i = 0; i < 24; i++) {
            x.add(1 + i % 9);
            x.read(i, 24 - i);
        }
        x.pin(21, true);
        x.set(Bound.HOT, 20000);
        x.set(Bound.WARM, 9000);
        x.pass(1);
        x.read(22, 1);
        x.set(Bound.WARM, 12000);
        x.pass(1);
        x.pin(23, true);
        return x;
    }

    private static int[] featuresOf(HeatShelves x, int block) {
        int[] features = new int[8];
        for (int what = 0; what < 8; what++) {
            features[what] = x.ofBlock(block, what);
        }
        return features;
    }

    private static void removeOneOf24() {
        CHECK.part("Removes a block: one of 24, and no other; the next one brings nothing of an earlier one");
        for (int removed = 0; removed < 24; removed++) {
            HeatShelves x = fullHouse();
            int[][] before = new int[24][];
            for (int block = 0; block < 24; block++) {
                before[block] = featuresOf(x, block);
            }
            due("remove(" + removed + ")", x.remove(removed), before[removed][Bound.SHELF]);
            for (int block = 0; block < 24; block++) {
                if (block != removed) {
                    CHECK.holds(block + " stays as it was", Arrays.equals(featuresOf(x, block), before[block]));
                }
            }
            due("add(7)", x.add(7), 24);
            CHECK.holds("the next one", Arrays.equals(featuresOf(x, 24), new int[] {7, 1000, 0, 2, 0, 0, 0, 0}));
        }
    }

    private static void sumsWithoutOneOf24() {
        CHECK.part("Removes a block: one of 24, which counts no more");
        for (int removed = 0; removed < 24; removed++) {
            HeatShelves x = fullHouse();
            x.remove(removed);
            sumsOfShelves(x);
        }
    }

    private static void sumsOfShelves(HeatShelves x) {
        int[] counts = new int[3];
        int[] heats = new int[3];
        int pinned = 0;
        int blocks = x.total(15);
        for (int rank = 0; rank < blocks; rank++) {
            int block = x.block(rank);
            int shelf = x.ofBlock(block, Bound.SHELF);
            counts[shelf]++;
            heats[shelf] += x.ofBlock(block, 1);
            pinned += x.ofBlock(block, 4);
        }
        for (int shelf = 0; shelf < 3; shelf++) {
            due("blocks on " + shelf, x.shelf(shelf, 2), counts[shelf]);
            due("heat on " + shelf, x.shelf(shelf, 3), heats[shelf]);
        }
        due("pinned", x.total(23), pinned);
        due("heat", x.total(24), heats[0] + heats[1] + heats[2]);
    }

    private static void nightAfterOneOf24() {
        CHECK.part("Removes a block: one of 24, which moves no more");
        HeatShelves x = Bound.withBlocks(24, 1);
        Bound.wish(x, 2);
        x.set(Bound.MOVES, 1);
        due("the turn of one", x.pass(1), 1);
        x.remove(23);
        x.set(Bound.MOVES, 24);
        due("the turn of the others", x.pass(1), 22);
        due("all are deep", x.shelf(2, 1), 23);
        due("none is slow", x.shelf(1, 1), 0);
        due("none is fast", x.shelf(0, 1), 0);
    }

    private static void readUnknown() {
        CHECK.part("read: Returns what is paid for it; UNKNOWN");
        for (int block : NO_BLOCKS) {
            BOUND.changesNothing("read(" + block + ", 1)", x -> x.read(block, 1), -1);
        }
        BOUND.changesNothing(BoundsOfCallsTest::fewWithoutTwo, "read(2, 1)", x -> x.read(2, 1), -1);
    }

    private static void readTimes() {
        CHECK.part("read: times 1 to 99");
        HeatShelves x = Bound.onShelf(1, 9);
        due("read(0, 1)", x.read(0, 1), 18);
        due("read(0, 99)", x.read(0, 99), 18 * 99);
        due("readings", x.ofBlock(0, 6), 100);
        for (int times : new int[] {0, 100, -1, LEAST, MOST}) {
            BOUND.changesNothingWithBlocks("read(0, " + times + ")", y -> y.read(0, times), -2);
            BOUND.changesNothingWithBlocks("read(2, " + times + ")", y -> y.read(2, times), -2);
        }
    }

    private static void pinUnknown() {
        CHECK.part("pin: UNKNOWN");
        for (int block : NO_BLOCKS) {
            BOUND.changesNothing("pin(" + block + ", true)", x -> x.pin(block, true), -1);
            BOUND.changesNothing("pin(" + block + ", false)", x -> x.pin(block, false), -1);
        }
        BOUND.changesNothing(BoundsOfCallsTest::fewWithoutTwo, "pin(2, true)", x -> x.pin(2, true), -1);
    }

    private static void pinAlready() {
        CHECK.part("pin: NONE if it is so already.");
        BOUND.changesNothingWithBlocks("pin(0, false)", x -> x.pin(0, false), -5);
        BOUND.changesNothingWithBlocks("pin(4, true)", x -> x.pin(4, true), -5);
        HeatShelves x = Bound.after(Bound::few);
        due("pin(4, false)", x.pin(4, false), 0);
        due("pin(4, false)", x.pin(4, false), -5);
    }

    private static void pinCounts() {
        CHECK.part("Returns how many blocks are pinned then");
        HeatShelves x = Bound.withBlocks(24, 1);
        for (int block = 0; block < 24; block++) {
            due("pinned", x.pin(block, true), block + 1);
        }
        due("all", x.total(23), 24);
        for (int block = 0; block < 24; block++) {
            due("pinned", x.pin(block, false), 23 - block);
        }
        due("none", x.total(23), 0);
    }

    private static void passNights() {
        CHECK.part("pass: nights 1 to 99");
        HeatShelves x = new HeatShelves();
        due("pass(1)", x.pass(1), 0);
        due("pass(99)", x.pass(99), 0);
        due("nights", x.total(17), 100);
        for (int nights : new int[] {0, 100, -1, LEAST, MOST}) {
            BOUND.changesNothing("pass(" + nights + ")", y -> y.pass(nights), -2);
        }
    }

    private static void pass5000Nights() {
        CHECK.part("FULL if the nights would be more than 5000.");
        HeatShelves x = new HeatShelves();
        for (int i = 0; i < 50; i++) {
            x.pass(99);
        }
        due("5001", x.pass(51), -3);
        due("5049", x.pass(99), -3);
        due("nights", x.total(17), 4950);
        due("5000", x.pass(50), 0);
        due("nights", x.total(17), 5000);
        BOUND.changesNothing(Bound::allNights, "5001", y -> y.pass(1), -3);
        BOUND.changesNothing(Bound::allNights, "5099", y -> y.pass(99), -3);
        due("undo()", x.undo(), 3);
        due("4951", x.pass(1), 0);
        due("5001", x.pass(50), -3);
        due("5000", x.pass(49), 0);
    }

    private static void setUnknown() {
        CHECK.part("set: setting 0 to 14, UNKNOWN");
        for (int setting : new int[] {-1, 15, 16, LEAST, MOST}) {
            BOUND.changesNothing("set(" + setting + ", 0)", x -> x.set(setting, 0), -1);
            BOUND.changesNothing("set(" + setting + ", -1)", x -> x.set(setting, -1), -1);
        }
        HeatShelves x = new HeatShelves();
        due("set(0, 81)", x.set(0, 81), 80);
        due("set(14, 10)", x.set(14, 10), 9);
    }

    private static void setOutOfRange() {
        CHECK.part("set: value in its range, OUT_OF_RANGE");
        for (int i = 0; i < Bound.SETTINGS; i++) {
            int setting = i;
            for (int value : new int[] {-1, Bound.greatestValue(setting) + 1, LEAST, MOST}) {
                BOUND.changesNothing("set(" + setting + ", " + value + ")", x -> x.set(setting, value), -2);
            }
        }
    }

    private static void setRoomBelowSize() {
        CHECK.part("NOT_POSSIBLE if what is on a shelf would be more than its room");
        for (int i = 0; i < 3; i++) {
            int shelf = i;
            HeatShelves x = Bound.onShelf(shelf, 9);
            due("just its room", x.set(Bound.ROOM + shelf, 9), Bound.firstValue(Bound.ROOM + shelf));
            due("it is so", x.shelf(shelf, 0), 9);
            due("1 less", x.set(Bound.ROOM + shelf, 8), -4);
            due("none", x.set(Bound.ROOM + shelf, 0), -4);
            due("it stays", x.shelf(shelf, 0), 9);
            for (int other = 0; other < 3; other++) {
                int before = Bound.firstValue(Bound.ROOM + other);
                due("an empty shelf", x.set(Bound.ROOM + other, 0), other == shelf ? -4 : before);
            }
            x.remove(0);
            due("none, when it has gone", x.set(Bound.ROOM + shelf, 0), 9);
            BOUND.changesNothing(Bound::few, "1 less", y -> y.set(Bound.ROOM + shelf, y.shelf(shelf, 1) - 1), -4);
        }
    }

    private static void setSameValue() {
        CHECK.part("set: NONE if it has this value already.");
        for (int i = 0; i < Bound.SETTINGS; i++) {
            int setting = i;
            BOUND.changesNothing("set(" + setting + ")", x -> x.set(setting, x.total(setting)), -5);
            HeatShelves x = new HeatShelves();
            int next = Bound.firstValue(setting) - (setting == Bound.ROOM + 2 ? 1 : -1);
            due("set", x.set(setting, next), Bound.firstValue(setting));
            due("the same again", x.set(setting, next), -5);
            due("back", x.set(setting, Bound.firstValue(setting)), next);
        }
    }

    private static void blockRanks() {
        CHECK.part("block: OUT_OF_RANGE if rank is negative; NONE if there are not so many.");
        due("of a new object", new HeatShelves().block(0), -5);
        for (int rank : new int[] {-1, LEAST}) {
            BOUND.changesNothing("block(" + rank + ")", x -> x.block(rank), -2);
        }
        for (int rank : new int[] {5, 24, MOST}) {
            BOUND.changesNothing("block(" + rank + ")", x -> x.block(rank), -5);
        }
        HeatShelves x = Bound.withBlocks(24, 1);
        due("of several alike the least number", x.block(0), 0);
        due("the last", x.block(23), 23);
        due("none", x.block(24), -5);
        x.read(23, 1);
        due("the hottest", x.block(0), 23);
        due("then the least number", x.block(1), 0);
        due("the last", x.block(23), 22);
        x.remove(22);
        due("the last", x.block(22), 21);
        due("none", x.block(23), -5);
        x.set(Bound.FADE, 0);
        x.pass(1);
        due("the first of those without heat", x.block(0), 0);
        due("the last of those without heat", x.block(22), 23);
        x.read(4, 1);
        due("the only one with heat", x.block(0), 4);
        due("the first without heat", x.block(1), 0);
    }

    private static void ofBlockUnknown() {
        CHECK.part("ofBlock: UNKNOWN");
        for (int block : NO_BLOCKS) {
            BOUND.changesNothing("ofBlock(" + block + ", 0)", x -> x.ofBlock(block, 0), -1);
            BOUND.changesNothing("ofBlock(" + block + ", 8)", x -> x.ofBlock(block, 8), -1);
        }
        HeatShelves x = Bound.after(BoundsOfCallsTest::fewWithoutTwo);
        due("one that has gone", x.ofBlock(2, 0), -1);
        due("the next one", x.ofBlock(3, 0), 9);
    }

    private static void ofBlockWhat() {
        CHECK.part("ofBlock: what 0 to 8, OUT_OF_RANGE");
        for (int what : new int[] {-1, 9, LEAST, MOST}) {
            BOUND.changesNothingWithBlocks("ofBlock(0, " + what + ")", x -> x.ofBlock(0, what), -2);
        }
        HeatShelves x = Bound.after(Bound::few);
        int[] first = {3, 409, 2, 2, 0, 5, 0, 2, 2};
        int[] last = {5, 409, 2, 2, 1, 5, 0, 1, 1};
        for (int what = 0; what <= 8; what++) {
            due("ofBlock(0, " + what + ")", x.ofBlock(0, what), first[what]);
            due("ofBlock(4, " + what + ")", x.ofBlock(4, what), last[what]);
        }
    }

    private static int why(HeatShelves x) {
        return x.ofBlock(0, Bound.WHY);
    }

    private static void whyPinned() {
        CHECK.part("Why it stays: the first of these that is so: 1 it is pinned");
        HeatShelves x = Bound.onShelf(0, 9);
        Bound.wish(x, 2);
        due("it would move", why(x), 0);
        x.pass(1);
        due("promised", why(x), 2);
        x.pin(0, true);
        due("pinned and promised", why(x), 1);
        x.set(Bound.MOVES, 0);
        due("no moves, too", why(x), 1);
        x.read(0, 1);
        x.pin(0, false);
        due("not pinned any more", why(x), 4);
        Bound.wish(x, 0);
        x.pin(0, true);
        due("pinned where it wants to be", why(x), 1);
    }

    private static void whyPromised() {
        CHECK.part("2 it is promised for some more nights, when that night comes to moves");
        HeatShelves x = Bound.onShelf(0, 9);
        Bound.wish(x, 2);
        x.set(Bound.PROMISE, 2);
        x.pass(1);
        due("for 2: 1 when that night comes", why(x), 2);
        x.set(Bound.MOVES, 0);
        Bound.wish(x, 0);
        due("wherever it wants to be, without moves", why(x), 2);
        x.pass(1);
        due("for 1: 0 when that night comes", why(x), 4);
        x.set(Bound.MOVES, 1);
        due("it would move", why(x), 0);
        Bound.wish(x, 2);
        due("where it wants to be", why(x), 3);
    }

    private static void whyOnItsWantedShelf() {
        CHECK.part("3 its wanted shelf is its own, by its heat then");
        HeatShelves x = Bound.withBlocks(1, 9);
        x.set(Bound.HOT, 800);
        due("800 then", why(x), 3);
        x.set(Bound.MOVES, 0);
        due("before no moves", why(x), 3);
        x.set(Bound.HOT, 801);
        due("1 more: no moves", why(x), 4);
        x.set(Bound.MOVES, 1);
        due("1 more: it would move", why(x), 0);
        due("though it wants to be there now", x.ofBlock(0, Bound.WANTED), 0);
        x.pass(1);
        x.set(Bound.WARM, 640);
        due("640 then", why(x), 3);
        x.set(Bound.WARM, 641);
        due("1 more", why(x), 0);
    }

    private static void whyMovesUsedUp() {
        CHECK.part("4 the moves of that night are used up when its turn comes");
        HeatShelves x = Bound.withBlocks(3, 1);
        x.set(Bound.FADE, 100);
        x.set(Bound.MOVES, 2);
        due("the second turn", x.ofBlock(1, Bound.WHY), 0);
        due("the third turn", x.ofBlock(2, Bound.WHY), 4);
        x.set(Bound.MOVES, 3);
        due("the third of three", x.ofBlock(2, Bound.WHY), 0);
        x.set(Bound.MOVES, 2);
        x.pin(0, true);
        due("a pinned one uses up none", x.ofBlock(2, Bound.WHY), 0);
        x.pin(0, false);
        x.set(Bound.ROOM + 1, 2);
        due("used up, and no room either", x.ofBlock(2, Bound.WHY), 4);
        x.set(Bound.ROOM + 1, 1);
        due("one move is left, but no room", x.ofBlock(2, Bound.WHY), 5);

        x = Bound.withBlocks(1, 9);
        x.set(Bound.FADE, 100);
        x.set(Bound.ROOM, 9);
        x.add(1);
        x.read(1, 9);
        x.set(Bound.MOVES, 1);
        due("up comes after down", x.ofBlock(1, Bound.WHY), 4);
        x.set(Bound.MOVES, 2);
        due("two moves", x.ofBlock(1, Bound.WHY), 0);
    }

    private static void whyNoRoom() {
        CHECK.part("5 there is no room.");
        HeatShelves x = Bound.onShelf(0, 9);
        Bound.wish(x, 2);
        Bound.setRooms(x, 9, 8, 8);
        due("neither is enough", why(x), 5);
        x.set(Bound.ROOM + 1, 9);
        due("the slow one is", why(x), 0);
        Bound.setRooms(x, 9, 0, 9);
        due("the deep one is", why(x), 0);
        x = Bound.onShelf(0, 9);
        Bound.wish(x, 1);
        Bound.setRooms(x, 9, 8, 9);
        due("the slow one is not", why(x), 5);
        x = Bound.onShelf(1, 9);
        Bound.wish(x, 0);
        Bound.setRooms(x, 8, 9, 9);
        due("the fast one is not", why(x), 5);
        x.set(Bound.ROOM, 9);
        due("the fast one is", why(x), 0);
    }

    private static void shelfUnknown() {
        CHECK.part("shelf: shelf 0 to 2, UNKNOWN");
        for (int shelf : new int[] {-1, 3, LEAST, MOST}) {
            BOUND.changesNothing("shelf(" + shelf + ", 0)", x -> x.shelf(shelf, 0), -1);
            BOUND.changesNothing("shelf(" + shelf + ", 5)", x -> x.shelf(shelf, 5), -1);
        }
    }

    private static void shelfWhat() {
        CHECK.part("shelf: what 0 to 4, OUT_OF_RANGE");
        for (int what : new int[] {-1, 5, LEAST, MOST}) {
            BOUND.changesNothing("shelf(0, " + what + ")", x -> x.shelf(0, what), -2);
            BOUND.changesNothing("shelf(2, " + what + ")", x -> x.shelf(2, what), -2);
        }
        HeatShelves x = Bound.after(Bound::few);
        int[][] want = {{20, 9, 1, 1409, 90}, {40, 9, 1, 1638, 36}, {200, 16, 3, 1227, 16}};
        for (int shelf = 0; shelf < 3; shelf++) {
            for (int what = 0; what <= 4; what++) {
                due("shelf(" + shelf + ", " + what + ")", x.shelf(shelf, what), want[shelf][what]);
            }
        }
    }

    private static void totalWhat() {
        CHECK.part("total: what 0 to 26, OUT_OF_RANGE");
        for (int what : new int[] {-1, 27, LEAST, MOST}) {
            BOUND.changesNothing("total(" + what + ")", x -> x.total(what), -2);
        }
        HeatShelves x = Bound.after(Bound::few);
        due("total(0)", x.total(0), 80);
        due("total(14)", x.total(14), 9);
        int[] want = {5, 5, 4, 718, 135, 90, 9, 1, 1, 4274, 2, 10};
        for (int what = 15; what <= 26; what++) {
            due("total(" + what + ")", x.total(what), want[what - 15]);
        }
    }

    private static void ifPassedNights() {
        CHECK.part("ifPassed: nights 1 to 99");
        for (int nights : new int[] {0, 100, -1, LEAST, MOST}) {
            BOUND.changesNothing("ifPassed(" + nights + ", 0)", x -> x.ifPassed(nights, 0), -2);
        }
        for (int nights : new int[] {1, 2, 98, 99}) {
            HeatShelves x = Bound.after(Bound::few);
            int paid = x.ifPassed(nights, 0);
            int moves = x.ifPassed(nights, 1);
            int heat = x.ifPassed(nights, 2);
            int deep = x.ifPassed(nights, 5);
            int before = x.total(18);
            due("moves", x.pass(nights), moves);
            due("paid", x.total(18) - before, paid);
            due("heat", x.total(24), heat);
            due("deep", x.shelf(2, 1), deep);
        }
    }

    private static void ifPassedWhat() {
        CHECK.part("ifPassed: what 0 to 5");
        for (int what : new int[] {-1, 6, LEAST, MOST}) {
            BOUND.changesNothing("ifPassed(1, " + what + ")", x -> x.ifPassed(1, what), -2);
        }
        HeatShelves x = Bound.after(Bound::few);
        int[] want = {142, 1, 1127 + 1310 + 3 * 327, 0, 18, 16};
        for (int what = 0; what <= 5; what++) {
            due("ifPassed(1, " + what + ")", x.ifPassed(1, what), want[what]);
        }
    }

    /** A block on the slow shelf that goes deep in a night so far off. */
    private static HeatShelves leavesIn(int nights) {
        HeatShelves x = Bound.onShelf(1, 1);
        x.set(Bound.FADE, 99);
        int heat = 1000;
        for (int i = 1; i < nights; i++) {
            heat = heat * 99 / 100;
        }
        x.set(Bound.WARM, heat);
        return x;
    }

    private static void nextMoveNights() {
        CHECK.part("Returns how many, 1 to 99; NONE if none does until then.");
        for (int nights : new int[] {1, 2, 98, 99}) {
            HeatShelves x = leavesIn(nights);
            due("nextMove()", x.nextMove(), nights);
            due("not before", nights == 1 ? 0 : x.pass(nights - 1), 0);
            due("then", x.pass(1), 1);
        }
        HeatShelves x = leavesIn(100);
        due("the 100th night", x.nextMove(), -5);
        due("no move in 99", x.pass(99), 0);
        due("then", x.nextMove(), 1);
        due("no blocks", new HeatShelves().nextMove(), -5);
        BOUND.changesNothing(Bound::none, "nextMove()", HeatShelves::nextMove, -5);
    }

    private static void bestHotNights() {
        CHECK.part("bestHot: nights 1 to 20");
        for (int nights : new int[] {0, 21, 99, -1, LEAST, MOST}) {
            BOUND.changesNothing("bestHot(" + nights + ", 0)", x -> x.bestHot(nights, 0), -2);
            BOUND.changesNothing("bestHot(" + nights + ", 1)", x -> x.bestHot(nights, 1), -2);
        }
        HeatShelves x = Bound.onShelf(0, 9);
        x.set(Bound.HOT, 20000);
        due("1 night", x.bestHot(1, 1), 90);
        due("20 nights", x.bestHot(20, 1), 90 + 19 * 36);
    }

    private static void bestHotWhat() {
        CHECK.part("bestHot: what 0 or 1");
        for (int what : new int[] {-1, 2, LEAST, MOST}) {
            BOUND.changesNothing("bestHot(1, " + what + ")", x -> x.bestHot(1, what), -2);
        }
        due("bestHot(1, 0)", new HeatShelves().bestHot(1, 0), 500);
        due("bestHot(1, 1)", new HeatShelves().bestHot(1, 1), 0);
    }

    private static void bestHotMultiples() {
        CHECK.part("of the multiples of 500 from 0 to 20000 that are at least WARM");
        int[] warms = {0, 1, 499, 500, 501, 1000, 19499, 19500, 19501, 20000};
        int[] bests = {0, 500, 500, 500, 1000, 1000, 19500, 19500, 20000, 20000};
        for (int i = 0; i < warms.length; i++) {
            HeatShelves x = new HeatShelves();
            x.set(Bound.HOT, 20000);
            x.set(Bound.WARM, warms[i]);
            due("WARM " + warms[i], x.bestHot(1, 0), bests[i]);
        }
        HeatShelves x = Bound.withBlocks(1, 1);
        x.set(Bound.FADE, 99);
        x.read(0, 19);
        due("19800 then, colder than 20000 alone", x.bestHot(2, 0), 20000);
        due("paid", x.bestHot(2, 1), 10 + 4);
        x.read(0, 1);
        due("20790 then, in no case colder", x.bestHot(2, 0), 500);
        due("paid", x.bestHot(2, 1), 10 + 10);
        x = Bound.onShelf(1, 1);
        x.set(Bound.FADE, 0);
        x.set(Bound.NIGHT_PRICE, 0);
        due("0, so that it is hot without heat", x.bestHot(2, 0), 0);
        due("paid", x.bestHot(2, 1), 4);
    }

    private static void bestHotOfSeveral() {
        CHECK.part("of several the least one.");
        HeatShelves x = Bound.withBlocks(1, 1);
        x.set(Bound.FADE, 100);
        due("1000 is not above the heat", x.bestHot(2, 1), 14);
        due("1500 is", x.bestHot(2, 0), 1500);
        x.set(Bound.FADE, 99);
        due("1000 is above 990", x.bestHot(2, 0), 1000);
        x.set(Bound.NIGHT_PRICE + 1, 10);
        due("all alike", x.bestHot(2, 0), 500);
        due("HOT is as it was", x.total(Bound.HOT), 3000);
    }

    private static void cheapestUnknown() {
        CHECK.part("cheapest: UNKNOWN");
        for (int block : NO_BLOCKS) {
            BOUND.changesNothing("cheapest(" + block + ", 0)", x -> x.cheapest(block, 0), -1);
            BOUND.changesNothing("cheapest(" + block + ", -1)", x -> x.cheapest(block, -1), -1);
        }
    }

    private static void cheapestReadings() {
        CHECK.part("cheapest: readings 0 to 999");
        for (int readings : new int[] {-1, 1000, LEAST, MOST}) {
            BOUND.changesNothingWithBlocks("cheapest(0, " + readings + ")", x -> x.cheapest(0, readings), -2);
        }
        HeatShelves x = Bound.withBlocks(1, 9);
        due("none", x.cheapest(0, 0), 2);
        due("999", x.cheapest(0, 999), 0);
        x.set(Bound.NIGHT_PRICE, 50);
        x.set(Bound.NIGHT_PRICE + 1, 0);
        x.set(Bound.READING_PRICE, 1);
        due("499: 999, 998, 4501", x.cheapest(0, 499), 1);
        due("500: 1000, 1000, 4510", x.cheapest(0, 500), 0);
        due("999: 1499, 1998, 9001", x.cheapest(0, 999), 0);
    }

    private static void cheapestOfSeveral() {
        CHECK.part("Returns the shelf, of several the one with the least number");
        HeatShelves x = Bound.onShelf(1, 9);
        x.set(Bound.READING_PRICE + 1, 6);
        due("4: 100, 64, 46", x.cheapest(0, 4), 2);
        due("10: 100, 100, 100", x.cheapest(0, 10), 0);
        x.set(Bound.NIGHT_PRICE, 11);
        due("10: 110, 100, 100", x.cheapest(0, 10), 1);
        x.set(Bound.NIGHT_PRICE + 1, 5);
        due("10: 110, 110, 100", x.cheapest(0, 10), 2);
        due("11: 110, 116, 109", x.cheapest(0, 11), 2);
        due("12: 110, 122, 118", x.cheapest(0, 12), 0);
        x.set(Bound.ROOM, 0);
        due("whatever the room", x.cheapest(0, 12), 0);
    }

    private static void greatestCountOfNights() {
        CHECK.part("what would be; nothing changes, and the greatest count of nights does not matter.");
        HeatShelves x = Bound.after(Bound::allNights);
        x.add(5);
        due("no night may pass", x.pass(1), -3);
        due("ifPassed(1, 0)", x.ifPassed(1, 0), 50);
        due("ifPassed(99, 1)", x.ifPassed(99, 1), 2);
        due("nextMove()", x.nextMove(), 1);
        due("bestHot(20, 1)", x.bestHot(20, 1), 50 + 3 * 20 + 16 * 5);
        due("it would move", why(x), 0);
        x.set(Bound.MOVES, 0);
        due("why it stays", why(x), 4);
        due("nights", x.total(17), 5000);
    }

    private static void greatestAccounts() {
        CHECK.part("what was paid: the most in 5000 nights");
        HeatShelves x = new HeatShelves();
        for (int shelf = 0; shelf < 3; shelf++) {
            x.set(Bound.ROOM + shelf, 200);
            x.set(Bound.NIGHT_PRICE + shelf, 50);
        }
        for (int i = 0; i < 24; i++) {
            due("add(9)", x.add(9), i);
        }
        due("on the fast shelf", x.shelf(0, 1), 198);
        Bound.allNights(x);
        due("paid", x.total(18), 5000 * 216 * 50);
        for (int i = 0; i < 24; i++) {
            x.read(i, 99);
        }
        due("heat", x.total(24), x.shelf(0, 3) + x.shelf(1, 3) + x.shelf(2, 3));
        x.set(Bound.FADE, 100);
        for (int i = 0; i < 24; i++) {
            x.read(i, 99);
        }
        due("the most heat", x.total(24), 24 * 99999);
    }

    private static void last512Calls() {
        CHECK.part("An object is used for at most 512 calls");
        HeatShelves x = new HeatShelves();
        x.add(9);
        x.set(Bound.READING_PRICE, 50);
        for (int call = 3; call <= 510; call++) {
            due("read", x.read(0, 99), 44550);
        }
        due("the 511th", x.ofBlock(0, 6), 508 * 99);
        due("the 512th", x.total(19), 508 * 44550);
    }
}
