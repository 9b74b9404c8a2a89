/** The bounds that stand under "TEXTS" and in the promises 8 to 10, a test for each sentence. */
public final class BoundsOfTextsTest {
    private static final Check CHECK = new Check();
    private static final Bound BOUND = new Bound(CHECK);

    public static void main(String[] args) {
        atMost60Characters();
        anyCharacter();
        emptiedText();
        oneOrMoreOrders();
        commaBetweenTwo();
        signsOfOrders();
        sizes();
        numbersOfBlocks();
        timesOfReading();
        onceWithoutTimes();
        pinnedOrNotAnyMore();
        nights();
        noZerosAhead();
        endsTooEarly();
        faultOfAFullText();
        faultComesFirst();
        firstErrorOfAnOrder();
        allOrNone();
        ordersSeeEarlierOnes();
        fullByOrders();
        nightsByOrders();
        oneChange();
        CHECK.end();
    }

    private static void due(String call, long got, long want) {
        CHECK.due(call, got, want);
    }

    /** After few, where the blocks 0 to 4 are there. */
    private static int performed(String text) {
        HeatShelves x = Bound.after(Bound::few);
        return Bound.perform(x, text);
    }

    private static void isAllowed(String text, int orders) {
        due("perform() of " + text, performed(text), orders);
    }

    private static void hasFault(String text, int fault) {
        BOUND.changesNothing(x -> retype(x, text), "perform() of " + text, HeatShelves::perform, -100 - fault);
    }

    private static void isRefused(String text, int error) {
        BOUND.changesNothing(x -> retype(x, text), "perform() of " + text, HeatShelves::perform, error);
    }

    private static void retype(HeatShelves x, String text) {
        Bound.few(x);
        x.clearText();
        Bound.type(x, text);
    }

    private static void atMost60Characters() {
        CHECK.part("There is a text of at most 60 characters, empty at first.");
        HeatShelves x = new HeatShelves();
        due("empty at first", x.total(26), 0);
        due("perform() of it", x.perform(), -100);
        for (int length = 1; length <= 60; length++) {
            due("type", x.type('n'), length);
        }
        due("the 61st", x.type('n'), -3);
        due("length", x.total(26), 60);
        String full = "n1,".repeat(19) + "n10";
        BOUND.changesNothing(y -> retype(y, full), "the 61st", y -> y.type('0'), -3);
        BOUND.changesNothing(y -> retype(y, full), "the 61st that is no fault", y -> y.type(','), -3);
    }

    private static void anyCharacter() {
        CHECK.part("character: any character");
        char[] characters = {0, 1, ' ', '/', ':', 127, 128, 255, 256, '1' + 256, 'n' + 256, 65535};
        for (char c : characters) {
            HeatShelves x = new HeatShelves();
            due("type " + (int) c, x.type(c), 1);
            due("not allowed as the first", x.perform(), -100);
            x.clearText();
            Bound.type(x, "n1");
            due("type " + (int) c, x.type(c), 3);
            due("not allowed as the last", x.perform(), -102);
            x.clearText();
            Bound.type(x, "n");
            due("type " + (int) c, x.type(c), 2);
            due("no digit", x.perform(), -101);
        }
    }

    private static void emptiedText() {
        CHECK.part("Empties the text. Returns the length that it had.");
        HeatShelves x = new HeatShelves();
        due("empty already", x.clearText(), 0);
        Bound.type(x, "n");
        due("one", x.clearText(), 1);
        due("empty", x.clearText(), 0);
        Bound.type(x, "n".repeat(61));
        due("the most", x.clearText(), 60);
        due("type", x.type('n'), 1);
        due("nothing is left of the earlier one", x.perform(), -101);
        BOUND.same("clearText() and the same text", y -> retype(y, Bound.TEXT), Bound::few);
    }

    private static void oneOrMoreOrders() {
        CHECK.part("It is a list of one or more orders");
        isAllowed("n1", 1);
        isAllowed("n1,n1", 2);
        isAllowed("n1,".repeat(19) + "n1", 20);
        isAllowed("n1,".repeat(19) + "n10", 20);
        hasFault("", 0);
    }

    private static void commaBetweenTwo() {
        CHECK.part("with \",\" between two");
        hasFault(",", 0);
        hasFault(",n1", 0);
        hasFault("n1,,n1", 3);
        hasFault("n1,n1,", 6);
        hasFault("n1n1", 2);
        hasFault("n1;n1", 2);
        hasFault("n1 ,n1", 2);
        hasFault("n1, n1", 3);
    }

    private static void signsOfOrders() {
        CHECK.part("orders: \"+\", \"-\", \"r\", \"p\", \"n\"");
        String others = "*,.0159PRNos qm/|!";
        for (int i = 0; i < others.length(); i++) {
            hasFault(others.charAt(i) + "1", 0);
            hasFault("p0," + others.charAt(i) + "1", 3);
        }
    }

    private static void sizes() {
        CHECK.part("\"+\" and a size from 1 to 9 (a block is added)");
        for (int size = 1; size <= 9; size++) {
            HeatShelves x = new HeatShelves();
            due("perform()", Bound.perform(x, "+" + size), 1);
            due("size", x.ofBlock(0, 0), size);
        }
        hasFault("+0", 1);
        hasFault("+10", 2);
        hasFault("+19", 2);
        hasFault("+90", 2);
        hasFault("+1,+10", 5);
        hasFault("+-1", 1);
        hasFault("+5*2", 2);
    }

    private static void numbersOfBlocks() {
        CHECK.part("Numbers of blocks are 0 to 999, a digit by which a number would be too great is not allowed.");
        for (String sign : new String[] {"-", "r", "p"}) {
            isAllowed(sign + "0", 1);
            isAllowed(sign + "4", 1);
            isRefused(sign + "5", -1);
            isRefused(sign + "10", -1);
            isRefused(sign + "100", -1);
            isRefused(sign + "999", -1);
            hasFault(sign + "1000", 4);
            hasFault(sign + "1009", 4);
            hasFault(sign + "9990", 4);
            hasFault(sign + "99999999999", 4);
            hasFault(sign + "a", 1);
            hasFault(sign + "-1", 1);
            hasFault(sign + "1a", 2);
            hasFault(sign + "/", 1);
            hasFault(sign + ":", 1);
        }
    }

    private static void timesOfReading() {
        CHECK.part("\"r\" and a number of a block, and then perhaps \"*\" and a number from 1 to 99");
        for (int times : new int[] {1, 9, 10, 99}) {
            HeatShelves x = Bound.withBlocks(1, 1);
            due("perform()", Bound.perform(x, "r0*" + times), 1);
            due("read so many times", x.ofBlock(0, 6), times);
        }
        isRefused("r999*99", -1);
        hasFault("r0*0", 3);
        hasFault("r0*100", 5);
        hasFault("r0*109", 5);
        hasFault("r0*999", 5);
        hasFault("r0*1*1", 4);
        hasFault("r0**1", 3);
        hasFault("r*1", 1);
        hasFault("r0*-1", 3);
        hasFault("r0*,n1", 3);
        hasFault("-0*1", 2);
        hasFault("p0*1", 2);
        hasFault("n1*1", 2);
    }

    private static void onceWithoutTimes() {
        CHECK.part("(it is read so many times, once without it)");
        HeatShelves x = Bound.withBlocks(2, 1);
        due("perform()", Bound.perform(x, "r0,r1*3,r0"), 3);
        due("twice once", x.ofBlock(0, 6), 2);
        due("three times", x.ofBlock(1, 6), 3);
    }

    private static void pinnedOrNotAnyMore() {
        CHECK.part("\"p\" and a number of a block (it is pinned, or not any more, if it was)");
        HeatShelves x = Bound.withBlocks(2, 1);
        due("perform()", Bound.perform(x, "p1"), 1);
        due("pinned", x.ofBlock(1, 4), 1);
        due("the other one is not", x.ofBlock(0, 4), 0);
        due("perform() again", x.perform(), 1);
        due("not any more", x.ofBlock(1, 4), 0);
        due("twice", Bound.perform(x, "p0,p0"), 2);
        due("as before", x.ofBlock(0, 4), 0);
        due("three times", Bound.perform(x, "p0,p0,p0"), 3);
        due("pinned", x.ofBlock(0, 4), 1);
    }

    private static void nights() {
        CHECK.part("\"n\" and a number from 1 to 99 (so many nights).");
        for (int nights : new int[] {1, 9, 10, 99}) {
            HeatShelves x = new HeatShelves();
            due("perform()", Bound.perform(x, "n" + nights), 1);
            due("nights", x.total(17), nights);
        }
        hasFault("n0", 1);
        hasFault("n100", 3);
        hasFault("n109", 3);
        hasFault("n999", 3);
        hasFault("n-1", 1);
    }

    private static void noZerosAhead() {
        CHECK.part("numbers have no zeros ahead of other digits");
        for (String sign : new String[] {"-", "r", "p"}) {
            hasFault(sign + "00", 2);
            hasFault(sign + "01", 2);
            hasFault(sign + "000", 2);
        }
        hasFault("r00*1", 2);
        hasFault("r0*01", 3);
        hasFault("r0*00", 3);
        hasFault("+01", 1);
        hasFault("n01", 1);
        hasFault("n00", 1);
        isAllowed("n10,r0*10", 2);
    }

    private static void endsTooEarly() {
        CHECK.part("or the length of the text if it ends too early (the empty text does).");
        String[] texts = {"", "+", "-", "r", "p", "n", "r0*", "n1,", "n1,+", "n1,r4*", "r0*9,"};
        for (String text : texts) {
            hasFault(text, text.length());
        }
    }

    private static void faultOfAFullText() {
        CHECK.part("the index of the first character that is not allowed, or the length of the text: of 60");
        String start = "n1,".repeat(19);
        hasFault(start + "n1,", 60);
        hasFault(start + "n1x", 59);
        hasFault(start + "r0*", 60);
        hasFault(start + "nxx", 58);
        hasFault(start + "xxx", 57);
        hasFault("x".repeat(60), 0);
        hasFault("-" + "9".repeat(59), 4);
    }

    private static void faultComesFirst() {
        CHECK.part("-100 minus the fault of the text if it has one; otherwise the error of an order");
        hasFault("-7,+", 4);
        hasFault("-7,r7,p7,n0", 10);
        hasFault("x,+0", 0);
        isRefused("-7,+1", -1);
    }

    private static void firstErrorOfAnOrder() {
        CHECK.part("otherwise the error of the first order that returns one.");
        isRefused("+1,".repeat(19) + "+1", -3);
        isRefused("+1,".repeat(19) + "-99", -1);
        isRefused("-99," + "+1,".repeat(17) + "+1", -1);
        isRefused("r0,r7*99,+1", -1);
        isRefused("p0,-0,p0", -1);
        HeatShelves x = Bound.withBlocks(24, 1);
        due("full, then unknown", Bound.perform(x, "r0,+1,-24"), -3);
        due("unknown, then full", Bound.perform(x, "r0,-24,+1"), -1);
        due("not read", x.ofBlock(0, 6), 0);
    }

    private static void allOrNone() {
        CHECK.part("all of them, or none if one of them returns an error.");
        isRefused("+1,r0*9,p1,-2,n9,-7", -1);
        isRefused("-0,-1,-2,-3,-4,-4", -1);
        isRefused("p0,p1,p2,p3,p4,p5", -1);
        isAllowed("p0,p1,p2,p3,p4,p0", 6);
        isAllowed("-0,-1,-2,-3,-4", 5);
    }

    private static void ordersSeeEarlierOnes() {
        CHECK.part("Carries out the orders of the text, one after the other");
        HeatShelves x = new HeatShelves();
        due("a block of an earlier order", Bound.perform(x, "+1,r0,p0,-0"), 4);
        due("it has gone", x.total(15), 0);
        due("its number is not used again", Bound.perform(x, "+1,-0"), -1);
        due("the next number", Bound.perform(x, "+1,-1"), 2);
        x = Bound.withBlocks(24, 1);
        due("room by an earlier order", Bound.perform(x, "-0,+1"), 2);
        due("too late", Bound.perform(x, "+1,-1"), -3);
        due("all are still there", x.total(15), 24);
    }

    private static void fullByOrders() {
        CHECK.part("the error of the first order that returns one: FULL by add");
        HeatShelves x = Bound.withBlocks(4, 1);
        due("24 blocks", Bound.perform(x, "+1,".repeat(19) + "+1"), 20);
        due("one more", Bound.perform(x, "+1"), -3);
        x = new HeatShelves();
        Bound.setRooms(x, 9, 9, 9);
        due("rooms are just full", Bound.perform(x, "+9,+9,+9"), 3);
        due("one more", Bound.perform(x, "n1,+1"), -3);
        due("no night has passed", x.total(17), 0);
    }

    private static void nightsByOrders() {
        CHECK.part("the error of the first order that returns one: FULL by pass");
        HeatShelves x = Bound.after(Bound::allNights);
        x.undo();
        due("one night too many", Bound.perform(x, "n50,n1"), -3);
        due("none has passed", x.total(17), 4950);
        due("one night too many in one order", Bound.perform(x, "n51"), -3);
        due("just so many", Bound.perform(x, "n49,n1"), 2);
        due("5000", x.total(17), 5000);
        due("no more", Bound.perform(x, "n1"), -3);
        due("a block of a refused text", Bound.perform(x, "+1,n1"), -3);
        due("is not there", x.total(16), 0);
    }

    private static void oneChange() {
        CHECK.part("the orders of the text, which stays ... This is one change. Returns how many orders the text has");
        HeatShelves x = Bound.withBlocks(1, 1);
        due("three orders", Bound.perform(x, "r0,r0,r0"), 3);
        due("one change", x.total(25), 2);
        due("the text stays", x.total(26), 8);
        due("undo()", x.undo(), 1);
        due("none of them is left", x.ofBlock(0, 6), 0);
        due("the text stays", x.perform(), 3);
        BOUND.isUndone("perform()", HeatShelves::perform);
    }
}
