/** Extreme arguments in many states, and far more calls than are promised: no call throws, and errors change nothing. */
public final class AnyArgumentsTest {
    private static final Check CHECK = new Check();
    private static final int[] EXTREMES = {
        Integer.MIN_VALUE, Integer.MIN_VALUE + 1, -1000, -101, -100, -2, -1, 0, 1, 2, 3, 9, 10, 14, 15, 23, 24, 26, 27,
        60, 99, 100, 200, 999, 1000, 5000, 20000, 20001, Integer.MAX_VALUE - 1, Integer.MAX_VALUE
    };

    public static void main(String[] args) {
        HeatShelves x = new HeatShelves();
        for (int round = 0; round < 40; round++) {
            for (int a : EXTREMES) {
                for (int b : EXTREMES) {
                    ask(x, a, b);
                }
                change(x, a, EXTREMES[round % EXTREMES.length]);
            }
            checkRooms(x);
        }
        CHECK.end();
    }

    private static void ask(HeatShelves x, int a, int b) {
        long before = print(x);
        x.block(a);
        x.ofBlock(a, b);
        x.shelf(a, b);
        x.total(a);
        x.ifPassed(a, b);
        x.bestHot(a, b);
        x.cheapest(a, b);
        CHECK.due("questions (" + a + ", " + b + ") change nothing", print(x), before);
    }

    private static void change(HeatShelves x, int a, int b) {
        unlessError(x, "add", a, b);
        unlessError(x, "read", a, b);
        unlessError(x, "read", b, a);
        unlessError(x, "pin", a, b);
        unlessError(x, "pass", a, b);
        unlessError(x, "set", a, b);
        unlessError(x, "set", b, a);
        unlessError(x, "perform", a, b);
        unlessError(x, "restore", a, b);
        x.type((char) a);
        x.type((char) ('+' + (b & 7)));
        unlessError(x, "remove", a, b);
        x.nextMove();
        if ((a & 3) == 0) {
            x.undo();
            x.keep();
            x.clearText();
        }
    }

    private static void unlessError(HeatShelves x, String call, int a, int b) {
        long before = print(x);
        int answer = call(x, call, a, b);
        if (answer < 0) {
            CHECK.due(call + "(" + a + ", " + b + ") changes nothing", print(x), before);
        }
    }

    private static int call(HeatShelves x, String call, int a, int b) {
        switch (call) {
            case "add": return x.add(a);
            case "read": return x.read(a, b);
            case "pin": return x.pin(a, (b & 1) == 0);
            case "pass": return x.pass(a);
            case "set": return x.set(a, b);
            case "perform": return x.perform();
            case "restore": return x.restore();
            default: return x.remove(a);
        }
    }

    private static long print(HeatShelves x) {
        long print = 0;
        for (int what = 0; what <= 26; what++) {
            print = print * 31 + x.total(what);
        }
        for (int rank = 0; rank < x.total(15); rank++) {
            for (int what = 0; what <= 7; what++) {
                print = print * 31 + x.ofBlock(x.block(rank), what);
            }
        }
        return print;
    }

    private static void checkRooms(HeatShelves x) {
        int blocks = 0;
        for (int shelf = 0; shelf < 3; shelf++) {
            CHECK.holds("no shelf is over its room", x.shelf(shelf, 1) <= x.shelf(shelf, 0));
            blocks += x.shelf(shelf, 2);
        }
        CHECK.due("blocks", blocks, x.total(15));
        CHECK.holds("at most 24", blocks <= 24);
    }
}
