/** Each promise by hand: ordinary inputs, the edges that the document names, and wrong inputs. */
public final class PromisesTest {
    private static final Check CHECK = new Check();

    private static final int[] FIRST = {80, 3000, 500, 4, 5, 2, 20, 40, 200, 10, 4, 1, 0, 2, 9};
    private static final int[] GREATEST =
        {100, 20000, 20000, 24, 30, 50, 200, 200, 200, 50, 50, 50, 50, 50, 50};

    public static void main(String[] args) {
        promise01NewObject();
        promise02Add();
        promise03Remove();
        promise04Read();
        promise04AskedBack();
        promise05Pin();
        promise06Pass();
        promise06Order();
        promise06Moves();
        promise06Rooms();
        promise06Promises();
        promise07Set();
        promise08Type();
        promise09ClearText();
        promise10Faults();
        promise10Perform();
        promise11Undo();
        promise12And13Snapshot();
        promise14Block();
        promise15OfBlock();
        promise15WhyItStays();
        promise16Shelf();
        promise17Total();
        promise18IfPassed();
        promise19NextMove();
        promise20BestHot();
        promise21Cheapest();
        CHECK.end();
    }

    private static void due(String call, long got, long want) {
        CHECK.due(call, got, want);
    }

    private static HeatShelves withBlocks(int... sizes) {
        HeatShelves x = new HeatShelves();
        for (int size : sizes) {
            x.add(size);
        }
        return x;
    }

    private static void type(HeatShelves x, String text) {
        x.clearText();
        for (int i = 0; i < text.length(); i++) {
            due("type in " + text, x.type(text.charAt(i)), i + 1);
        }
    }

    private static int perform(HeatShelves x, String text) {
        type(x, text);
        return x.perform();
    }

    private static void promise01NewObject() {
        CHECK.part("1 A new object");
        due("UNKNOWN", HeatShelves.UNKNOWN, -1);
        due("OUT_OF_RANGE", HeatShelves.OUT_OF_RANGE, -2);
        due("FULL", HeatShelves.FULL, -3);
        due("NOT_POSSIBLE", HeatShelves.NOT_POSSIBLE, -4);
        due("NONE", HeatShelves.NONE, -5);
        HeatShelves x = new HeatShelves();
        for (int what = 0; what <= 26; what++) {
            due("total(" + what + ")", x.total(what), what < 15 ? FIRST[what] : 0);
        }
        for (int shelf = 0; shelf < 3; shelf++) {
            due("shelf room", x.shelf(shelf, 0), FIRST[6 + shelf]);
            due("shelf size", x.shelf(shelf, 1), 0);
            due("shelf count", x.shelf(shelf, 2), 0);
            due("shelf heat", x.shelf(shelf, 3), 0);
            due("shelf price", x.shelf(shelf, 4), 0);
        }
        due("restore()", x.restore(), -5);
        due("undo()", x.undo(), -5);
        HeatShelves y = new HeatShelves();
        x.add(3);
        due("another object is apart", y.total(15), 0);
    }

    private static void promise02Add() {
        CHECK.part("2 add");
        HeatShelves x = new HeatShelves();
        due("add(0)", x.add(0), -2);
        due("add(-1)", x.add(-1), -2);
        due("add(10)", x.add(10), -2);
        due("add(least)", x.add(Integer.MIN_VALUE), -2);
        due("add(greatest)", x.add(Integer.MAX_VALUE), -2);
        due("errors record nothing", x.total(25), 0);
        due("add(9)", x.add(9), 0);
        due("add(9)", x.add(9), 1);
        due("add(3)", x.add(3), 2);
        due("no room for 3 on the fast shelf", x.ofBlock(2, 2), 1);
        due("add(2)", x.add(2), 3);
        due("just room for 2 on the fast shelf", x.ofBlock(3, 2), 0);
        due("heat", x.ofBlock(3, 1), 1000);
        due("size", x.ofBlock(2, 0), 3);
        due("fast shelf is full", x.shelf(0, 1), 20);
        for (int i = 0; i < 4; i++) {
            due("add(9)", x.add(9), 4 + i);
            due("on the slow shelf", x.ofBlock(4 + i, 2), 1);
        }
        due("add(2) goes deep", x.add(2), 8);
        due("deep", x.ofBlock(8, 2), 2);
        due("deep by add is not promised", x.ofBlock(8, 5), 0);
        due("add(1) still fits the slow one", x.add(1), 9);
        due("slow", x.ofBlock(9, 2), 1);

        x = withBlocks(1, 1, 1, 1, 1, 1, 1, 1, 1, 1, 1, 1, 1, 1, 1, 1, 1, 1, 1, 1, 1, 1, 1);
        due("the 24th", x.add(1), 23);
        due("the 25th", x.add(1), -3);
        due("the 25th with a wrong size", x.add(10), -2);
        due("blocks", x.total(15), 24);
        x.remove(5);
        due("again", x.add(1), 24);
        due("removed numbers are not used again", x.ofBlock(5, 0), -1);

        x = new HeatShelves();
        x.set(6, 0);
        x.set(7, 4);
        x.set(8, 4);
        due("no shelf has room", x.add(5), -3);
        due("the slow one has", x.add(4), 0);
        due("the deep one has", x.add(4), 1);
        due("none has", x.add(1), -3);
        due("blocks so far", x.total(16), 2);
    }

    private static void promise03Remove() {
        CHECK.part("3 remove");
        HeatShelves x = withBlocks(9, 9, 9, 2);
        due("remove(4)", x.remove(4), -1);
        due("remove(-1)", x.remove(-1), -1);
        due("remove(least)", x.remove(Integer.MIN_VALUE), -1);
        due("history", x.total(25), 4);
        x.read(2, 1);
        x.pin(3, true);
        due("remove(1)", x.remove(1), 0);
        due("remove(1) again", x.remove(1), -1);
        due("its room is free", x.shelf(0, 1), 11);
        due("remove(2)", x.remove(2), 1);
        due("nothing is on the slow shelf", x.shelf(1, 2), 0);
        due("nothing is paid", x.total(18) + x.total(20), 0);
        due("another one keeps its size", x.ofBlock(3, 0), 2);
        due("another one keeps its pin", x.ofBlock(3, 4), 1);
        due("another one was not read", x.ofBlock(3, 6), 0);
        due("blocks", x.total(15), 2);
        due("blocks so far", x.total(16), 4);
        due("undo()", x.undo(), 3);
        due("it is back", x.ofBlock(2, 6), 1);

        x = new HeatShelves();
        for (int i = 0; i < 24; i++) {
            x.add(1);
        }
        x.read(23, 6);
        x.pin(23, true);
        x.set(0, 0);
        x.set(3, 24);
        x.pass(1);
        due("remove(0)", x.remove(0), 2);
        due("the last of 24 keeps its heat, 0", x.ofBlock(23, 1), 0);
        due("its pin", x.ofBlock(23, 4), 1);
        due("its readings", x.ofBlock(23, 6), 6);
        due("its shelf", x.ofBlock(23, 2), 1);
        due("the one before is promised", x.ofBlock(22, 5), 5);
        due("it moved", x.ofBlock(22, 7), 1);
        due("remove(23)", x.remove(23), 1);
        due("add(2)", x.add(2), 24);
        due("it brings nothing of an earlier one", x.ofBlock(24, 4) + x.ofBlock(24, 5) + x.ofBlock(24, 6)
            + x.ofBlock(24, 7), 0);

        x = withBlocks(5);
        x.set(0, 0);
        x.pass(1);
        due("remove from the deep shelf, promised", x.remove(0), 2);
        due("no fee", x.total(20), 0);
        due("deep is free", x.shelf(2, 1), 0);
    }

    private static void promise04Read() {
        CHECK.part("4 read");
        HeatShelves x = withBlocks(9, 9, 7);
        due("read(3, 0)", x.read(3, 0), -1);
        due("read(-1, 1)", x.read(-1, 1), -1);
        due("read(0, 0)", x.read(0, 0), -2);
        due("read(0, -1)", x.read(0, -1), -2);
        due("read(0, 100)", x.read(0, 100), -2);
        due("fast readings cost 0", x.read(0, 3), 0);
        due("heat", x.ofBlock(0, 1), 4000);
        due("slow readings cost 2", x.read(2, 5), 70);
        due("paid", x.total(19), 70);
        due("how often", x.ofBlock(2, 6), 5);
        due("the slow one is not asked back", x.total(22), 0);
        due("it stays", x.ofBlock(2, 2), 1);
        x.set(12, 50);
        due("read(1, 99)", x.read(1, 99), 9 * 50 * 99);
        due("heat is at most 99999", x.ofBlock(1, 1), 99999);
        due("read(1, 1)", x.read(1, 1), 450);
        due("heat stays", x.ofBlock(1, 1), 99999);
        due("how often", x.ofBlock(1, 6), 100);
        due("paid", x.total(19), 70 + 100 * 450);
        due("no fees", x.total(20), 0);
        x = withBlocks(1);
        x.read(0, 98);
        due("heat 99000", x.ofBlock(0, 1), 99000);
        x.read(0, 1);
        due("heat 100000 is cut", x.ofBlock(0, 1), 99999);
    }

    private static void promise04AskedBack() {
        CHECK.part("4 read, asked back");
        HeatShelves x = withBlocks(6);
        x.set(0, 0);
        x.pass(3);
        due("promised for 3 more", x.ofBlock(0, 5), 3);
        x.pin(0, true);
        due("9 for the reading, 2 * 3 for the promise, each for 6", x.read(0, 3), 54 + 36);
        due("paid for readings", x.total(19), 54);
        due("paid for fees", x.total(20), 36);
        due("the promise is over", x.ofBlock(0, 5), 0);
        due("it is fast, though pinned", x.ofBlock(0, 2), 0);
        due("it moved down and back", x.ofBlock(0, 7), 2);
        due("asked back once", x.total(22), 1);
        due("moves by night", x.total(21), 1);
        due("no room on the deep shelf is taken", x.shelf(2, 1), 0);
        due("heat", x.ofBlock(0, 1), 3000);

        x = withBlocks(6);
        x.set(0, 0);
        x.pass(1);
        x.set(6, 5);
        due("to the slow shelf, then a slow reading", x.read(0, 2), 54 + 60 + 12);
        due("slow", x.ofBlock(0, 2), 1);
        due("asked back once", x.total(22), 1);

        x = withBlocks(6);
        x.set(0, 0);
        x.pass(1);
        x.set(6, 5);
        x.set(7, 5);
        due("it stays, the fee is paid once", x.read(0, 2), 54 + 60 + 54);
        due("deep", x.ofBlock(0, 2), 2);
        due("asked back twice", x.total(22), 2);
        due("it moved down alone", x.ofBlock(0, 7), 1);
        due("the promise is over", x.ofBlock(0, 5), 0);
        x.set(6, 6);
        due("just room on the fast shelf", x.read(0, 1), 54);
        due("fast", x.ofBlock(0, 2), 0);
    }

    private static void promise05Pin() {
        CHECK.part("5 pin");
        HeatShelves x = withBlocks(1, 2);
        due("pin(2, true)", x.pin(2, true), -1);
        due("pin(-1, false)", x.pin(-1, false), -1);
        due("pin(0, false)", x.pin(0, false), -5);
        due("history", x.total(25), 2);
        due("pin(0, true)", x.pin(0, true), 1);
        due("pin(1, true)", x.pin(1, true), 2);
        due("pin(1, true)", x.pin(1, true), -5);
        due("history", x.total(25), 4);
        due("pinned", x.ofBlock(1, 4), 1);
        due("pinned", x.total(23), 2);
        due("pin(0, false)", x.pin(0, false), 1);
        due("not pinned", x.ofBlock(0, 4), 0);
        x.remove(1);
        due("none is pinned", x.total(23), 0);
        due("the next one is not pinned", x.ofBlock(x.add(4), 4), 0);
    }

    private static void promise06Pass() {
        CHECK.part("6 pass");
        HeatShelves x = withBlocks(9, 9, 7);
        due("pass(0)", x.pass(0), -2);
        due("pass(-1)", x.pass(-1), -2);
        due("pass(100)", x.pass(100), -2);
        x.set(3, 0);
        due("pass(1)", x.pass(1), 0);
        due("paid: 18 * 10 and 7 * 4", x.total(18), 208);
        due("heat", x.ofBlock(0, 1), 800);
        due("pass(2)", x.pass(2), 0);
        due("paid", x.total(18), 3 * 208);
        due("heat 640, 512", x.ofBlock(0, 1), 512);
        x.pass(1);
        due("heat 409.6 is rounded down", x.ofBlock(0, 1), 409);
        due("nights", x.total(17), 4);
        due("undo()", x.undo(), 3);
        due("nights", x.total(17), 3);

        x = new HeatShelves();
        for (int i = 0; i < 50; i++) {
            due("pass(99)", x.pass(99), 0);
        }
        due("nights", x.total(17), 4950);
        due("pass(51)", x.pass(51), -3);
        due("pass(100) comes first", x.pass(100), -2);
        due("pass(50)", x.pass(50), 0);
        due("pass(1)", x.pass(1), -3);
        due("nights", x.total(17), 5000);
        due("perform n1", perform(x, "n1"), -3);
        due("what would be goes on", x.ifPassed(99, 0), 0);
    }

    private static void promise06Order() {
        CHECK.part("6 pass, the order of moves");
        HeatShelves x = withBlocks(1, 1, 1, 1, 1);
        x.read(0, 1);
        x.read(3, 1);
        x.read(4, 9);
        x.set(0, 100);
        x.set(3, 1);
        due("pass(1)", x.pass(1), 1);
        due("the least number of the coldest", x.ofBlock(1, 2), 1);
        due("pass(2)", x.pass(2), 2);
        due("then 2", x.ofBlock(2, 2), 1);
        due("then 0", x.ofBlock(0, 2), 1);
        due("not 3 yet", x.ofBlock(3, 2), 0);
        due("the hot one stays", x.pass(9), 1);
        due("3 is slow", x.ofBlock(3, 2), 1);
        due("4 is fast", x.ofBlock(4, 2), 0);
        x.read(2, 4);
        x.read(1, 4);
        x.read(0, 9);
        due("the hottest first", x.pass(1), 1);
        due("0", x.ofBlock(0, 2), 0);
        due("the least number of the hottest", x.pass(1), 1);
        due("1", x.ofBlock(1, 2), 0);
        due("2", x.ofBlock(2, 2), 1);
        due("its moves", x.ofBlock(1, 7), 2);
        x.set(1, 20000);
        due("down comes before up", x.pass(1), 1);
        due("the coldest of the fast ones", x.ofBlock(1, 2), 1);
        due("moves by night", x.total(21), 7);
    }

    private static void promise06Moves() {
        CHECK.part("6 pass, the count of moves");
        HeatShelves x = new HeatShelves();
        for (int i = 0; i < 24; i++) {
            x.add(1);
        }
        x.set(0, 0);
        due("4 moves", x.ifPassed(1, 1), 4);
        x.set(3, 23);
        due("23 moves", x.ifPassed(1, 1), 23);
        x.set(3, 24);
        due("24 moves", x.pass(1), 24);
        due("all are deep", x.shelf(2, 2), 24);
        due("all moves", x.total(21), 24);

        x = withBlocks(9, 9, 9, 9);
        x.read(2, 9);
        x.read(3, 9);
        x.set(3, 3);
        due("down and up, together", x.pass(1), 3);
        due("2 is up", x.ofBlock(2, 2), 0);
        due("3 is not", x.ofBlock(3, 2), 1);
        due("3 is up in the next night", x.pass(1), 1);
    }

    private static void promise06Rooms() {
        CHECK.part("6 pass, rooms");
        HeatShelves x = withBlocks(5, 3, 9);
        x.set(0, 0);
        x.set(8, 4);
        x.set(7, 5);
        due("0 to the slow one, 1 to the deep one; 2 stays", x.pass(1), 2);
        due("0", x.ofBlock(0, 2), 1);
        due("1", x.ofBlock(1, 2), 2);
        due("2", x.ofBlock(2, 2), 0);
        due("0 is not promised on the slow shelf", x.ofBlock(0, 5), 0);
        due("pass(1) moves nothing", x.pass(1), 0);
        x.set(8, 8);
        due("from slow to deep", x.pass(1), 1);
        due("0", x.ofBlock(0, 2), 2);

        x = withBlocks(5, 3, 9);
        x.set(0, 0);
        x.set(3, 2);
        x.set(8, 4);
        x.set(7, 0);
        due("those that stay use up no move", x.pass(1), 1);
        due("1", x.ofBlock(1, 2), 2);

        x = withBlocks(5, 3);
        x.set(0, 0);
        x.set(4, 0);
        x.pass(1);
        due("both are deep", x.shelf(2, 2), 2);
        x.set(6, 4);
        x.set(7, 5);
        x.set(2, 0);
        x.set(1, 0);
        due("both want the fast shelf", x.pass(1), 2);
        due("0", x.ofBlock(0, 2), 1);
        due("1", x.ofBlock(1, 2), 0);
        due("0 can't go on", x.pass(1), 0);
        x.set(6, 8);
        due("0 goes on", x.pass(1), 1);
        due("0", x.ofBlock(0, 2), 0);

        x = withBlocks(9, 9, 9);
        x.read(2, 9);
        due("down makes room for up in one night", x.pass(1), 3);
        due("2", x.ofBlock(2, 2), 0);
        due("0", x.ofBlock(0, 2), 1);
    }

    private static void promise06Promises() {
        CHECK.part("6 pass, promises and pins");
        HeatShelves x = withBlocks(4, 4);
        x.set(0, 0);
        x.pin(1, true);
        due("the pinned one stays", x.pass(1), 1);
        due("1", x.ofBlock(1, 2), 0);
        due("promised for 5", x.ofBlock(0, 5), 5);
        x.set(2, 0);
        x.set(4, 9);
        due("a promise is not changed by the setting", x.ofBlock(0, 5), 5);
        due("4 nights hold it", x.pass(4), 0);
        due("1 more", x.ofBlock(0, 5), 1);
        due("deep", x.ofBlock(0, 2), 2);
        due("then it wants the slow shelf", x.ofBlock(0, 3), 1);
        due("it moves up", x.pass(1), 1);
        due("slow", x.ofBlock(0, 2), 1);
        due("a promise is never less than 0", x.ofBlock(0, 5), 0);
        x.pin(1, false);
        due("not pinned any more", x.pass(1), 1);
        due("1 is slow", x.ofBlock(1, 2), 1);
    }

    private static void promise07Set() {
        CHECK.part("7 set");
        HeatShelves x = new HeatShelves();
        due("set(-1, 0)", x.set(-1, 0), -1);
        due("set(15, -1)", x.set(15, -1), -1);
        for (int setting = 0; setting < 15; setting++) {
            due("below", x.set(setting, -1), -2);
            due("above " + setting, x.set(setting, GREATEST[setting] + 1), -2);
            due("same " + setting, x.set(setting, FIRST[setting]), -5);
        }
        due("history", x.total(25), 0);
        for (int setting = 0; setting < 15; setting++) {
            int before = FIRST[setting] == GREATEST[setting] ? -5 : FIRST[setting];
            due("greatest of " + setting, x.set(setting, GREATEST[setting]), before);
            due("total", x.total(setting), GREATEST[setting]);
        }
        due("HOT below WARM", x.set(1, 19999), -4);
        due("WARM to 0", x.set(2, 0), 20000);
        for (int setting = 0; setting < 15; setting++) {
            if (setting != 2 && setting != 8) {
                due("least of " + setting, x.set(setting, 0), GREATEST[setting]);
            }
        }
        due("WARM above HOT", x.set(2, 1), -4);
        due("HOT 7", x.set(1, 7), 0);
        due("WARM as HOT", x.set(2, 7), 0);
        due("HOT below WARM", x.set(1, 6), -4);
        due("WARM above HOT", x.set(2, 8), -4);

        x = withBlocks(9, 9, 9);
        due("less room than is taken", x.set(6, 17), -4);
        due("just room", x.set(6, 18), 20);
        due("less room than is taken", x.set(7, 8), -4);
        due("just room", x.set(7, 9), 40);
        due("out of range comes first", x.set(7, -1), -2);
        due("the deep one is empty", x.set(8, 0), 200);
        due("room", x.shelf(2, 0), 0);
        due("errors record nothing", x.total(25), 4);
    }

    private static void promise08Type() {
        CHECK.part("8 type");
        HeatShelves x = new HeatShelves();
        due("type(0)", x.type((char) 0), 1);
        due("type(65535)", x.type((char) 65535), 2);
        for (int i = 3; i <= 60; i++) {
            due("type", x.type(','), i);
        }
        due("full", x.type('n'), -3);
        due("length", x.total(26), 60);
        due("the text is no change", x.total(25), 0);
        due("clearText()", x.clearText(), 60);
        due("type after that", x.type('n'), 1);
    }

    private static void promise09ClearText() {
        CHECK.part("9 clearText");
        HeatShelves x = new HeatShelves();
        due("clearText()", x.clearText(), 0);
        type(x, "+1");
        due("clearText()", x.clearText(), 2);
        due("length", x.total(26), 0);
        due("clearText()", x.clearText(), 0);
        due("it is no change", x.total(25), 0);
        due("perform()", x.perform(), -100);
    }

    private static void promise10Faults() {
        CHECK.part("10 perform, faults");
        String[] texts = {
            "", "+", "-", "r", "p", "n", ",", "x", "5", "*",
            "+0", "+10", "+9,", "+9,,", "+9;", "+9*2", "+9 ", " +9",
            "-00", "-01", "-1000", "-999x", "-0*2", "-a",
            "r0*", "r0*0", "r0*100", "r0*99*", "r0**", "r0*1x", "r*2", "r0*,", "r00",
            "p1*2", "p1000", "p,", "n0", "n100", "n99*2", "n01", "n,", "+1,n",
            "+1+1", "R0", "+1,p0,x", "n5n", "r12*3-", "+1,-0,r0*9,p0,n9,", "r0*:", "r0*/", "n:", "n/"
        };
        int[] faults = {
            0, 1, 1, 1, 1, 1, 0, 0, 0, 0,
            1, 2, 3, 3, 2, 2, 2, 0,
            2, 2, 4, 4, 2, 1,
            3, 3, 5, 5, 3, 4, 1, 3, 2,
            2, 4, 1, 1, 3, 3, 1, 1, 4,
            2, 0, 6, 2, 5, 17, 3, 3, 1, 1
        };
        due("as many faults as texts", faults.length, texts.length);
        HeatShelves[] x = new HeatShelves[1];
        for (int i = 0; i < texts.length; i++) {
            x[0] = new HeatShelves();
            due("perform " + texts[i], perform(x[0], texts[i]), -100 - faults[i]);
            due("nothing came of " + texts[i], x[0].total(16) + x[0].total(17) + x[0].total(25), 0);
        }
        HeatShelves y = new HeatShelves();
        type(y, "+" + (char) ('1' + 256));
        due("a character above 255 is no digit", y.perform(), -101);
        String full = "+1,+1,+1,+1,+1,+1,+1,+1,+1,+1,+1,+1,+1,+1,+1,+1,+1,+1,+1,+1,";
        due("a full text that ends too early", perform(y, full), -160);
        due("a text full of orders", perform(y, full.substring(0, 59)), 20);
        due("blocks", y.total(15), 20);
    }

    private static void promise10Perform() {
        CHECK.part("10 perform");
        HeatShelves x = new HeatShelves();
        due("perform", perform(x, "+9,+8,r1*12,p0,n2,r0"), 6);
        due("blocks", x.total(15), 2);
        due("read 12 times", x.ofBlock(1, 6), 12);
        due("read once", x.ofBlock(0, 6), 1);
        due("pinned", x.ofBlock(0, 4), 1);
        due("nights", x.total(17), 2);
        due("one change", x.total(25), 1);
        due("the text stays", x.total(26), 20);
        due("perform again", x.perform(), 6);
        due("not pinned any more", x.ofBlock(0, 4), 0);
        due("blocks", x.total(15), 4);
        due("undo()", x.undo(), 1);
        due("blocks", x.total(15), 2);
        due("undo()", x.undo(), 0);
        due("blocks so far", x.total(16), 0);

        due("the first error", perform(x, "+9,-0,-0,n9"), -1);
        due("all or none", x.total(16), 0);
        due("no change", x.total(25), 0);
        due("read of none", perform(x, "+9,r1"), -1);
        due("pin of none", perform(x, "+9,p999"), -1);
        due("none came", x.total(16), 0);
        x.set(6, 0);
        x.set(7, 0);
        x.set(8, 9);
        due("full, before unknown", perform(x, "+9,+1,r7"), -3);
        due("unknown, before full", perform(x, "+9,r7,+1"), -1);
        due("a fault comes first", perform(x, "+9,r7,+1,"), -109);
        due("it fits", perform(x, "+9"), 1);
        due("n99", perform(x, "n99"), 1);
        due("nights", x.total(17), 99);
        for (int i = 0; i < 49; i++) {
            x.pass(99);
        }
        due("too many nights", perform(x, "-0,n50,n1"), -3);
        due("the block is still there", x.total(15), 1);
        due("just so many", perform(x, "-0,n49,n1"), 3);
    }

    private static void promise11Undo() {
        CHECK.part("11 undo");
        HeatShelves x = new HeatShelves();
        due("undo()", x.undo(), -5);
        x.add(1);
        x.add(2);
        x.set(0, 50);
        x.pin(0, true);
        x.pass(1);
        x.read(1, 1);
        due("at most 4 states", x.total(25), 4);
        due("undo()", x.undo(), 3);
        due("not read", x.ofBlock(1, 6), 0);
        due("undo()", x.undo(), 2);
        due("no night", x.total(17) + x.total(18), 0);
        due("heat", x.ofBlock(0, 1), 1000);
        due("undo()", x.undo(), 1);
        due("not pinned", x.ofBlock(0, 4), 0);
        due("undo()", x.undo(), 0);
        due("FADE", x.total(0), 80);
        due("blocks", x.total(15), 2);
        due("undo()", x.undo(), -5);
        due("a number comes again", x.add(5), 2);
        due("undo()", x.undo(), 0);
        type(x, "n");
        x.add(3);
        due("undo()", x.undo(), 0);
        due("the text stays", x.total(26), 1);
    }

    private static void promise12And13Snapshot() {
        CHECK.part("12 keep, 13 restore");
        HeatShelves x = new HeatShelves();
        due("restore()", x.restore(), -5);
        due("keep()", x.keep(), 0);
        due("keep is no change", x.total(25), 0);
        x.add(4);
        due("restore()", x.restore(), 0);
        due("restore is a change", x.total(25), 2);
        due("undo()", x.undo(), 1);
        due("blocks", x.total(15), 1);
        x.read(0, 2);
        due("keep()", x.keep(), 1);
        x.set(3, 9);
        x.pass(7);
        x.remove(0);
        due("restore()", x.restore(), 1);
        due("heat", x.ofBlock(0, 1), 3000);
        due("MOVES", x.total(3), 4);
        due("nights", x.total(17), 0);
        due("paid", x.total(18), 0);
        due("history", x.total(25), 4);
        due("restore() again", x.restore(), 1);
        due("the snapshot stays after a change", x.add(1), 1);
        due("restore()", x.restore(), 1);
        due("undo()", x.undo(), 3);
        due("blocks", x.total(15), 2);
        due("undo does not touch the snapshot", x.restore(), 1);
        type(x, "p0");
        due("restore()", x.restore(), 1);
        due("the text is not in it", x.total(26), 2);
    }

    private static void promise14Block() {
        CHECK.part("14 block");
        HeatShelves x = new HeatShelves();
        due("block(-1)", x.block(-1), -2);
        due("block(0)", x.block(0), -5);
        for (int i = 0; i < 4; i++) {
            x.add(1);
        }
        x.read(2, 1);
        x.read(3, 2);
        x.remove(0);
        x.add(1);
        due("block(0)", x.block(0), 3);
        due("block(1)", x.block(1), 2);
        due("block(2)", x.block(2), 1);
        due("block(3)", x.block(3), 4);
        due("block(4)", x.block(4), -5);
        due("block(greatest)", x.block(Integer.MAX_VALUE), -5);
        due("block(least)", x.block(Integer.MIN_VALUE), -2);
    }

    private static void promise15OfBlock() {
        CHECK.part("15 ofBlock");
        HeatShelves x = withBlocks(7, 8);
        due("ofBlock(2, 9)", x.ofBlock(2, 9), -1);
        due("ofBlock(-1, 0)", x.ofBlock(-1, 0), -1);
        due("ofBlock(0, -1)", x.ofBlock(0, -1), -2);
        due("ofBlock(0, 9)", x.ofBlock(0, 9), -2);
        due("size", x.ofBlock(1, 0), 8);
        due("heat", x.ofBlock(1, 1), 1000);
        due("shelf", x.ofBlock(1, 2), 0);
        due("wanted", x.ofBlock(1, 3), 1);
        x.set(1, 1000);
        due("HOT or more", x.ofBlock(1, 3), 0);
        x.set(1, 1001);
        due("less than HOT", x.ofBlock(1, 3), 1);
        x.set(2, 1000);
        due("WARM or more", x.ofBlock(1, 3), 1);
        x.set(2, 1001);
        due("less than WARM", x.ofBlock(1, 3), 2);
        x.pass(1);
        due("promised", x.ofBlock(1, 5), 5);
        due("deep", x.ofBlock(1, 2), 2);
        x.pass(2);
        due("promised", x.ofBlock(1, 5), 3);
        due("read", x.ofBlock(1, 6), 0);
        x.read(1, 4);
        due("read", x.ofBlock(1, 6), 4);
        due("moved", x.ofBlock(1, 7), 2);
        due("the other one moved", x.ofBlock(0, 7), 1);
    }

    private static void promise15WhyItStays() {
        CHECK.part("15 ofBlock, why it stays");
        HeatShelves x = withBlocks(4, 4, 4);
        x.set(2, 0);
        x.set(3, 2);
        due("it would move", x.ofBlock(0, 8), 0);
        due("it would move", x.ofBlock(1, 8), 0);
        due("moves used up", x.ofBlock(2, 8), 4);
        x.pin(0, true);
        due("pinned", x.ofBlock(0, 8), 1);
        due("then it would", x.ofBlock(2, 8), 0);
        x.set(7, 4);
        due("no room", x.ofBlock(2, 8), 5);
        x.set(3, 0);
        due("no moves at all", x.ofBlock(2, 8), 4);
        due("pinned comes first", x.ofBlock(0, 8), 1);
        x.set(3, 1);
        due("its moves are used up before room is asked", x.ofBlock(2, 8), 4);

        x = withBlocks(4);
        x.set(1, 800);
        due("where it is wanted, by its heat then", x.ofBlock(0, 8), 3);
        x.set(1, 801);
        due("it would move", x.ofBlock(0, 8), 0);
        due("though it is wanted there now", x.ofBlock(0, 3), 0);

        x = withBlocks(4);
        x.set(0, 0);
        x.set(4, 2);
        x.pass(1);
        due("promised for 2", x.ofBlock(0, 8), 2);
        x.set(2, 0);
        due("promised, wherever it is wanted", x.ofBlock(0, 8), 2);
        x.pass(1);
        due("promised for 1, but not when that night comes to moves", x.ofBlock(0, 8), 0);
        x.set(2, 1);
        due("where it is wanted", x.ofBlock(0, 8), 3);
        due("nothing changed", x.total(17), 2);
        due("nothing was recorded", x.total(25), 4);
    }

    private static void promise16Shelf() {
        CHECK.part("16 shelf");
        HeatShelves x = withBlocks(9, 9, 6, 5);
        x.read(2, 3);
        due("shelf(-1, 0)", x.shelf(-1, 0), -1);
        due("shelf(3, 9)", x.shelf(3, 9), -1);
        due("shelf(0, -1)", x.shelf(0, -1), -2);
        due("shelf(0, 5)", x.shelf(0, 5), -2);
        due("room", x.shelf(1, 0), 40);
        due("size", x.shelf(1, 1), 11);
        due("count", x.shelf(1, 2), 2);
        due("heat", x.shelf(1, 3), 5000);
        due("price", x.shelf(1, 4), 44);
        due("price", x.shelf(0, 4), 180);
        x.set(9, 3);
        due("price", x.shelf(0, 4), 54);
        due("deep size", x.shelf(2, 1), 0);
        x.set(0, 0);
        x.pass(1);
        due("deep count", x.shelf(2, 2), 4);
        due("deep price", x.shelf(2, 4), 29);
    }

    private static void promise17Total() {
        CHECK.part("17 total");
        HeatShelves x = withBlocks(9, 9, 6);
        due("total(-1)", x.total(-1), -2);
        due("total(27)", x.total(27), -2);
        due("total(least)", x.total(Integer.MIN_VALUE), -2);
        x.set(0, 50);
        x.pass(1);
        x.read(2, 2);
        x.pin(0, true);
        type(x, "abc");
        due("blocks", x.total(15), 3);
        due("blocks so far", x.total(16), 3);
        due("nights", x.total(17), 1);
        due("paid for nights", x.total(18), 204);
        due("paid for readings", x.total(19), 24);
        due("fees", x.total(20), 0);
        due("moves by night", x.total(21), 2);
        due("asked back", x.total(22), 0);
        due("pinned", x.total(23), 1);
        due("heat", x.total(24), 500 + 500 + 2500);
        due("states", x.total(25), 4);
        due("length", x.total(26), 3);
        x.pass(5);
        x.read(1, 1);
        due("paid for readings", x.total(19), 24 + 81);
        due("fees: 3 more nights", x.total(20), 9 * 2 * x.total(4) - 9 * 2 * 4);
        due("asked back", x.total(22), 1);
    }

    private static void promise18IfPassed() {
        CHECK.part("18 ifPassed");
        HeatShelves x = withBlocks(9, 9, 6);
        due("ifPassed(0, 0)", x.ifPassed(0, 0), -2);
        due("ifPassed(100, 0)", x.ifPassed(100, 0), -2);
        due("ifPassed(1, -1)", x.ifPassed(1, -1), -2);
        due("ifPassed(1, 6)", x.ifPassed(1, 6), -2);
        x.pass(1);
        due("paid", x.ifPassed(1, 0), 96);
        due("moves", x.ifPassed(1, 1), 0);
        due("heat", x.ifPassed(1, 2), 3 * 640);
        due("heat", x.ifPassed(99, 2), 0);
        due("fast", x.ifPassed(1, 3), 0);
        due("slow", x.ifPassed(1, 4), 24);
        due("deep", x.ifPassed(1, 5), 0);
        due("moves", x.ifPassed(4, 1), 3);
        due("paid", x.ifPassed(4, 0), 96 * 3 + 24 * 0 + (x.ifPassed(4, 0) - x.ifPassed(3, 0)));
        due("deep", x.ifPassed(4, 5), 24);
        due("nothing changed", x.total(17), 1);
        due("nothing was recorded", x.total(25), 4);
        due("nothing was paid", x.total(18), 204);
        due("heat is as it was", x.total(24), 2400);
    }

    private static void promise19NextMove() {
        CHECK.part("19 nextMove");
        HeatShelves x = new HeatShelves();
        due("nextMove()", x.nextMove(), -5);
        x.add(5);
        due("nextMove()", x.nextMove(), 1);
        x.pass(1);
        due("640, 512, 409", x.nextMove(), 3);
        due("once more", x.nextMove(), 3);
        x.set(0, 100);
        due("no fading", x.nextMove(), -5);
        x.set(0, 99);
        x.set(2, 300);
        x.set(3, 0);
        due("no moves", x.nextMove(), -5);
        x.set(3, 1);
        due("slowly", x.nextMove(), nightsUntilBelow(800, 99, 300));
        due("it comes so", x.ifPassed(x.nextMove(), 1), 1);
        due("not before", x.ifPassed(x.nextMove() - 1, 1), 0);
        x.read(0, 19);
        x.set(1, 20000);
        x.set(0, 99);
        x.set(2, 7292);
        due("the 99th night", nightsUntilBelow(19800, 99, 7292), 99);
        due("the 99th night", x.nextMove(), 99);
        x.set(2, 7291);
        due("the 100th night", nightsUntilBelow(19800, 99, 7291), 100);
        due("is too late", x.nextMove(), -5);
        due("nothing changed", x.total(17), 1);
    }

    private static int nightsUntilBelow(int heat, int fade, int bound) {
        int nights = 0;
        for (int h = heat; h >= bound; h = h * fade / 100) {
            nights++;
        }
        return nights;
    }

    private static void promise20BestHot() {
        CHECK.part("20 bestHot");
        HeatShelves x = withBlocks(5);
        due("bestHot(0, 0)", x.bestHot(0, 0), -2);
        due("bestHot(21, 0)", x.bestHot(21, 0), -2);
        due("bestHot(1, -1)", x.bestHot(1, -1), -2);
        due("bestHot(1, 2)", x.bestHot(1, 2), -2);
        due("one night is paid where it is", x.bestHot(1, 1), 50);
        due("the least HOT of several", x.bestHot(1, 0), 500);
        due("slow after the first night: above 800", x.bestHot(2, 0), 1000);
        due("50 and 20", x.bestHot(2, 1), 70);
        x.set(2, 501);
        due("multiples of 500 alone", x.bestHot(1, 0), 1000);
        x.set(2, 1000);
        due("at least WARM", x.bestHot(1, 0), 1000);
        x.set(1, 20000);
        x.set(2, 20000);
        due("20000 alone", x.bestHot(20, 0), 20000);
        due("50 and 19 nights of 5", x.bestHot(20, 1), 145);
        due("HOT stays", x.total(1), 20000);
        due("nothing was paid", x.total(18), 0);
        x.undo();
        x.set(2, 0);
        x.set(9, 0);
        due("where fast is cheap, the least HOT", x.bestHot(20, 0), 0);
        due("nothing is paid", x.bestHot(20, 1), 0);
    }

    private static void promise21Cheapest() {
        CHECK.part("21 cheapest");
        HeatShelves x = withBlocks(5);
        due("cheapest(1, -1)", x.cheapest(1, -1), -1);
        due("cheapest(-1, 0)", x.cheapest(-1, 0), -1);
        due("cheapest(0, -1)", x.cheapest(0, -1), -2);
        due("cheapest(0, 1000)", x.cheapest(0, 1000), -2);
        due("100, 40, 10", x.cheapest(0, 0), 2);
        due("100, 48, 46", x.cheapest(0, 4), 2);
        due("100, 50, 55", x.cheapest(0, 5), 1);
        due("100, 98, 271", x.cheapest(0, 29), 1);
        due("100, 100, 280: the least number", x.cheapest(0, 30), 0);
        due("many", x.cheapest(0, 999), 0);
        x.set(11, 4);
        x.set(14, 2);
        due("100, 48, 48: the least number", x.cheapest(0, 4), 1);
        x.set(7, 0);
        due("whatever the room", x.cheapest(0, 4), 1);
    }
}
