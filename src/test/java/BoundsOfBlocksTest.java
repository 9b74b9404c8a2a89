/** The bounds that stand under "SHELVES, BLOCKS" and "SETTINGS", a test for each sentence. */
public final class BoundsOfBlocksTest {
    private static final Check CHECK = new Check();
    private static final Bound BOUND = new Bound(CHECK);

    public static void main(String[] args) {
        threeShelves();
        sizeOfABlock();
        sizesWithinARoom();
        atMost24Blocks();
        numbersInTheOrderOfComing();
        noNumberTwice();
        greatestHeat();
        leastHeat();
        wantedFast();
        wantedSlow();
        rangesOfSettings();
        firstValues();
        warmAtMostHot();
        extremesOfFade();
        extremesOfPrices();
        extremesOfRooms();
        CHECK.end();
    }

    private static void due(String call, long got, long want) {
        CHECK.due(call, got, want);
    }

    private static void threeShelves() {
        CHECK.part("There are 3 shelves, 0 (fast), 1 (slow) and 2 (deep), each with a room.");
        HeatShelves x = new HeatShelves();
        due("shelf(0, 0)", x.shelf(0, 0), 20);
        due("shelf(1, 0)", x.shelf(1, 0), 40);
        due("shelf(2, 0)", x.shelf(2, 0), 200);
        BOUND.changesNothing("shelf(-1, 0)", y -> y.shelf(-1, 0), -1);
        BOUND.changesNothing("shelf(3, 0)", y -> y.shelf(3, 0), -1);
    }

    private static void sizeOfABlock() {
        CHECK.part("A block has a size from 1 to 9");
        HeatShelves x = new HeatShelves();
        due("add(1)", x.add(1), 0);
        due("add(9)", x.add(9), 1);
        due("the least size", x.ofBlock(0, 0), 1);
        due("the greatest size", x.ofBlock(1, 0), 9);
        BOUND.changesNothing("add(0)", y -> y.add(0), -2);
        BOUND.changesNothing("add(10)", y -> y.add(10), -2);
    }

    private static void sizesWithinARoom() {
        CHECK.part("the sizes of all blocks on a shelf, together, are never more than its room.");
        addedBeside(0, 3, 2, 0);
        addedBeside(0, 2, 2, 1);
        addedBeside(1, 3, 2, 1);
        addedBeside(1, 2, 2, 2);
        addedBeside(2, 3, 2, 2);
        BOUND.changesNothing(x -> besideASix(x, 2, 2), "add(3)", x -> x.add(3), -3);
        BOUND.changesNothing(x -> besideASix(x, 2, 0), "add(1)", x -> x.add(1), -3);
    }

    /** A block of the size 6 is on the shelf, faster ones have no room, and so much is left on it. */
    private static void besideASix(HeatShelves x, int shelf, int left) {
        for (int faster = 0; faster < shelf; faster++) {
            x.set(Bound.ROOM + faster, 0);
        }
        x.add(6);
        x.set(Bound.ROOM + shelf, 6 + left);
    }

    private static void addedBeside(int shelf, int left, int size, int want) {
        HeatShelves x = Bound.after(y -> besideASix(y, shelf, left));
        due("add where " + left + " is left", x.add(size + 1), 1);
        due("shelf where " + left + " is left", x.ofBlock(1, Bound.SHELF), want);
    }

    private static void atMost24Blocks() {
        CHECK.part("At most 24 blocks are there at a time");
        HeatShelves x = Bound.withBlocks(23, 1);
        due("the 24th", x.add(1), 23);
        due("blocks", x.total(15), 24);
        BOUND.changesNothing(BoundsOfBlocksTest::add24, "the 25th", y -> y.add(1), -3);
        due("remove(7)", x.remove(7), 0);
        due("the 24th again", x.add(1), 24);
        due("the 25th again", x.add(1), -3);
        due("blocks", x.total(15), 24);
    }

    private static void add24(HeatShelves x) {
        for (int i = 0; i < 24; i++) {
            x.add(1);
        }
    }

    private static void numbersInTheOrderOfComing() {
        CHECK.part("they have numbers, from 0 on, in the order in which they came");
        HeatShelves x = new HeatShelves();
        due("the first", x.add(5), 0);
        due("a refused one has no number", x.add(10), -2);
        due("the second", x.add(1), 1);
        due("the third", x.add(9), 2);
    }

    private static void noNumberTwice() {
        CHECK.part("no number is used again.");
        HeatShelves x = Bound.withBlocks(3, 1);
        x.remove(2);
        due("after the latest has gone", x.add(1), 3);
        x.remove(0);
        due("after the first has gone", x.add(1), 4);
        x.remove(1);
        x.remove(3);
        x.remove(4);
        due("after all have gone", x.add(1), 5);
        due("the first is not there", x.ofBlock(0, 0), -1);
        due("the last is", x.ofBlock(5, 0), 1);
    }

    private static void greatestHeat() {
        CHECK.part("A block has a heat, from 0 to 99999.");
        HeatShelves x = Bound.withBlocks(1, 1);
        x.read(0, 98);
        due("99000", x.ofBlock(0, 1), 99000);
        x.read(0, 1);
        due("not 100000", x.ofBlock(0, 1), 99999);
        x.read(0, 99);
        due("no more than that", x.ofBlock(0, 1), 99999);
        x.set(Bound.FADE, 99);
        x.pass(1);
        due("faded", x.ofBlock(0, 1), 98999);
        x.read(0, 1);
        due("just 99999", x.ofBlock(0, 1), 99999);
        x.set(Bound.FADE, 100);
        x.pass(99);
        due("kept by nights", x.ofBlock(0, 1), 99999);
    }

    private static void leastHeat() {
        CHECK.part("A block has a heat, from 0 to 99999: 0");
        HeatShelves x = Bound.withBlocks(1, 1);
        x.set(Bound.FADE, 0);
        x.pass(1);
        due("faded", x.ofBlock(0, 1), 0);
        x.set(Bound.FADE, 99);
        x.pass(99);
        due("no less than that", x.ofBlock(0, 1), 0);
        x.read(0, 1);
        due("read from 0 on", x.ofBlock(0, 1), 1000);
    }

    private static int wanted(int hot, int warm, int heat) {
        HeatShelves x = Bound.withBlocks(1, 1);
        if (heat == 0) {
            x.set(Bound.FADE, 0);
            x.pass(1);
        }
        x.set(Bound.WARM, 0);
        x.set(Bound.HOT, hot);
        x.set(Bound.WARM, warm);
        return x.ofBlock(0, Bound.WANTED);
    }

    private static void wantedFast() {
        CHECK.part("The wanted shelf of a block is 0 if its heat is HOT or more");
        due("HOT", wanted(1000, 0, 1000), 0);
        due("1 less than HOT", wanted(1001, 0, 1000), 1);
        due("0 is HOT", wanted(0, 0, 0), 0);
        due("0 is 1 less than HOT", wanted(1, 0, 0), 1);
        due("HOT and WARM", wanted(1000, 1000, 1000), 0);
    }

    private static void wantedSlow() {
        CHECK.part("otherwise 1 if it is WARM or more, otherwise 2.");
        due("WARM", wanted(3000, 1000, 1000), 1);
        due("1 less than WARM", wanted(3000, 1001, 1000), 2);
        due("0 is WARM", wanted(3000, 0, 0), 1);
        due("0 is 1 less than WARM", wanted(3000, 1, 0), 2);
        due("1 less than HOT and WARM", wanted(1001, 1001, 1000), 2);
    }

    private static HeatShelves readyForAll() {
        HeatShelves x = new HeatShelves();
        x.set(Bound.WARM, 0);
        x.set(Bound.HOT, 20000);
        return x;
    }

    private static void rangesOfSettings() {
        for (int i = 0; i < Bound.SETTINGS; i++) {
            int setting = i;
            int greatest = Bound.greatestValue(setting);
            CHECK.part("(Range; first value.) setting " + setting);
            HeatShelves x = readyForAll();
            x.set(setting, 1);
            due("the least", x.set(setting, 0), 1);
            due("it is so", x.total(setting), 0);
            due("the greatest", x.set(setting, greatest), 0);
            due("it is so", x.total(setting), greatest);
            BOUND.changesNothing("below", y -> y.set(setting, -1), -2);
            BOUND.changesNothing("above", y -> y.set(setting, greatest + 1), -2);
        }
    }

    private static void firstValues() {
        CHECK.part("(Range; first value.)");
        HeatShelves x = new HeatShelves();
        int[] first = {80, 3000, 500, 4, 5, 2, 20, 40, 200, 10, 4, 1, 0, 2, 9};
        for (int setting = 0; setting < first.length; setting++) {
            due("setting " + setting, x.total(setting), first[setting]);
        }
    }

    private static void warmAtMostHot() {
        CHECK.part("2 WARM (0 to 20000; 500), at most HOT");
        HeatShelves x = new HeatShelves();
        due("WARM as HOT", x.set(Bound.WARM, 3000), 500);
        due("HOT as WARM", x.set(Bound.HOT, 3000), -5);
        BOUND.changesNothing(Bound::none, "WARM above HOT", y -> y.set(Bound.WARM, 3001), -4);
        BOUND.changesNothing(Bound::rich, "WARM above HOT", y -> y.set(Bound.WARM, 3001), -4);
        BOUND.changesNothing(Bound::none, "HOT below WARM", y -> y.set(Bound.HOT, 499), -4);
        BOUND.changesNothing(Bound::rich, "HOT below WARM", y -> y.set(Bound.HOT, 599), -4);
        x = new HeatShelves();
        due("HOT down to WARM", x.set(Bound.HOT, 500), 3000);
        due("WARM 0", x.set(Bound.WARM, 0), 500);
        due("HOT 0", x.set(Bound.HOT, 0), 500);
        due("WARM above HOT 0", x.set(Bound.WARM, 1), -4);
        due("HOT 20000", x.set(Bound.HOT, 20000), 0);
        due("WARM 20000", x.set(Bound.WARM, 20000), 0);
        due("HOT below 20000", x.set(Bound.HOT, 19999), -4);
    }

    private static void extremesOfFade() {
        CHECK.part("0 FADE (0 to 100; 80)");
        HeatShelves x = Bound.withBlocks(1, 1);
        x.read(0, 3);
        x.set(Bound.FADE, 100);
        x.pass(99);
        due("nothing fades", x.ofBlock(0, 1), 4000);
        x.set(Bound.FADE, 99);
        x.pass(1);
        due("a hundredth fades", x.ofBlock(0, 1), 3960);
        x.set(Bound.FADE, 1);
        x.pass(1);
        due("a hundredth is left", x.ofBlock(0, 1), 39);
        x.set(Bound.FADE, 0);
        x.pass(1);
        due("nothing is left", x.ofBlock(0, 1), 0);
    }

    private static void extremesOfPrices() {
        CHECK.part("9 to 11 what a night costs, 12 to 14 what a reading costs (0 to 50)");
        for (int shelf = 0; shelf < 3; shelf++) {
            HeatShelves x = Bound.onShelf(shelf, 9);
            x.set(Bound.NIGHT_PRICE + shelf, 50);
            x.set(Bound.READING_PRICE + shelf, 50);
            due("what a night would cost", x.shelf(shelf, 4), 450);
            x.pass(1);
            due("what it costs", x.total(18), 450);
            due("what a reading costs", x.read(0, 1), 450);
            x.undo();
            x.set(Bound.NIGHT_PRICE + shelf, 0);
            x.set(Bound.READING_PRICE + shelf, 0);
            due("what a night would cost", x.shelf(shelf, 4), 0);
            x.pass(1);
            due("what it costs", x.total(18), 450);
            due("what a reading costs", x.read(0, 1), 0);
        }
    }

    private static void extremesOfRooms() {
        CHECK.part("6 to 8 the rooms of the shelves 0 to 2 (0 to 200; 20, 40, 200)");
        for (int shelf = 0; shelf < 3; shelf++) {
            HeatShelves x = new HeatShelves();
            for (int faster = 0; faster < shelf; faster++) {
                x.set(Bound.ROOM + faster, 0);
            }
            x.set(Bound.ROOM + shelf, 200);
            for (int i = 0; i < 22; i++) {
                x.add(9);
            }
            due("the 23rd fills it", x.add(2), 22);
            due("200", x.shelf(shelf, 1), 200);
            due("the 24th", x.add(1), shelf < 2 ? 23 : -3);
            due("is on the next one", x.ofBlock(23, Bound.SHELF), shelf < 2 ? shelf + 1 : -1);
        }
    }
}
