/** Runs of mixed calls, each answered by HeatShelves and by the model; the same runs every time. */
public final class ModelTest {
    private static final int RUNS = 500;
    private static final int CALLS = 110;
    private static final String SIGNS = "+-rpn*,0123456789x";

    private static final Check CHECK = new Check();
    private static long seed;
    private static HeatShelves x;
    private static Model model;

    public static void main(String[] args) {
        for (int run = 1; run <= RUNS && CHECK.isClean(); run++) {
            seed = run * 7919L;
            x = new HeatShelves();
            model = new Model();
            CHECK.part("run " + run);
            prepare();
            for (int call = 0; call < CALLS && CHECK.isClean(); call++) {
                change();
                compareSome();
            }
            compareAll();
        }
        CHECK.end();
    }

    /** From 0 to bound - 1. */
    private static int pick(int bound) {
        seed = (seed * 6364136223846793005L + 1442695040888963407L);
        return (int) ((seed >>> 33) % bound);
    }

    private static int near(int least, int greatest) {
        int kind = pick(20);
        if (kind == 0) {
            return least - 1 - pick(3);
        }
        if (kind == 1) {
            return greatest + 1 + pick(3);
        }
        return kind == 2 ? least : kind == 3 ? greatest : least + pick(greatest - least + 1);
    }

    private static int anyBlock() {
        int blocks = model.now.blocks.size();
        return blocks == 0 || pick(12) == 0 ? near(0, 30) : model.now.blocks.get(pick(blocks)).number;
    }

    private static void prepare() {
        int adds = pick(24);
        boolean isTight = pick(2) == 0;
        for (int i = 0; i < adds; i++) {
            int size = 1 + pick(9);
            CHECK.due("add(" + size + ")", x.add(size), model.add(size));
        }
        for (int shelf = 0; shelf < 3; shelf++) {
            setting(6 + shelf, isTight ? model.now.sizeOn(shelf) + pick(8) : pick(201));
        }
        setting(2, pick(3) == 0 ? 0 : pick(3000));
        setting(1, pick(6000));
        setting(3, pick(2) == 0 ? 24 : pick(5));
        setting(0, pick(3) == 0 ? 100 : 40 + pick(60));
    }

    private static void setting(int setting, int value) {
        CHECK.due("set(" + setting + ", " + value + ")", x.set(setting, value), model.set(setting, value));
    }

    private static void change() {
        int kind = pick(100);
        if (kind < 14) {
            int size = near(1, 9);
            CHECK.due("add(" + size + ")", x.add(size), model.add(size));
        } else if (kind < 19) {
            int block = anyBlock();
            CHECK.due("remove(" + block + ")", x.remove(block), model.remove(block));
        } else if (kind < 42) {
            int block = anyBlock();
            int times = pick(3) == 0 ? near(1, 99) : 1 + pick(5);
            CHECK.due("read(" + block + ", " + times + ")", x.read(block, times), model.read(block, times));
        } else if (kind < 48) {
            int block = anyBlock();
            boolean pin = pick(3) == 0;
            CHECK.due("pin(" + block + ", " + pin + ")", x.pin(block, pin), model.pin(block, pin));
        } else if (kind < 68) {
            int nights = pick(8) == 0 ? near(1, 99) : 1 + pick(3);
            CHECK.due("pass(" + nights + ")", x.pass(nights), model.pass(nights));
        } else if (kind < 80) {
            changeSetting();
        } else if (kind < 90) {
            text();
        } else if (kind < 95) {
            CHECK.due("undo()", x.undo(), model.undo());
        } else if (kind < 97) {
            CHECK.due("keep()", x.keep(), model.keep());
        } else {
            CHECK.due("restore()", x.restore(), model.restore());
        }
    }

    private static void changeSetting() {
        int[] most = {100, 20000, 20000, 24, 30, 50, 200, 200, 200, 50, 50, 50, 50, 50, 50};
        int setting = near(0, 14);
        if (setting < 0 || setting > 14) {
            setting(setting, near(0, 60));
        } else if (setting == 1 || setting == 2) {
            setting(setting, pick(4) == 0 ? near(0, 20000) : near(0, 4000));
        } else if (setting >= 6 && setting <= 8 && pick(2) == 0) {
            setting(setting, model.now.sizeOn(setting - 6) - 1 + pick(9));
        } else {
            setting(setting, near(0, most[setting]));
        }
    }

    private static void text() {
        if (pick(5) != 0) {
            CHECK.due("clearText()", x.clearText(), model.clearText());
        }
        StringBuilder text = new StringBuilder();
        int orders = 1 + pick(6);
        for (int i = 0; i < orders; i++) {
            text.append(i == 0 ? "" : ",").append(order());
        }
        if (pick(3) == 0 && text.length() > 0) {
            text.setCharAt(pick(text.length()), SIGNS.charAt(pick(SIGNS.length())));
        }
        for (int i = 0; i < text.length(); i++) {
            CHECK.due("type", x.type(text.charAt(i)), model.type(text.charAt(i)));
        }
        CHECK.due("perform() of " + model.text, x.perform(), model.perform());
    }

    private static String order() {
        switch (pick(6)) {
            case 0: return "+" + near(1, 9);
            case 1: return "-" + Math.max(0, anyBlock());
            case 2: return "r" + Math.max(0, anyBlock());
            case 3: return "r" + Math.max(0, anyBlock()) + "*" + near(1, 99);
            case 4: return "p" + Math.max(0, anyBlock());
            default: return "n" + near(1, 99);
        }
    }

    private static void compareSome() {
        for (int what = 15; what <= 26; what++) {
            CHECK.due("total(" + what + ")", x.total(what), model.total(what));
        }
        int block = anyBlock();
        for (int what = -1; what <= 9; what++) {
            CHECK.due("ofBlock(" + block + ", " + what + ")", x.ofBlock(block, what), model.ofBlock(block, what));
        }
        int shelf = near(0, 2);
        int what = near(0, 4);
        CHECK.due("shelf(" + shelf + ", " + what + ")", x.shelf(shelf, what), model.shelf(shelf, what));
        int rank = near(0, 24);
        CHECK.due("block(" + rank + ")", x.block(rank), model.block(rank));
        int readings = pick(2) == 0 ? near(0, 999) : pick(40);
        CHECK.due("cheapest(" + block + ", " + readings + ")", x.cheapest(block, readings), model.cheapest(block, readings));
        int nights = pick(2) == 0 ? near(1, 99) : 1 + pick(6);
        what = near(0, 5);
        CHECK.due("ifPassed(" + nights + ", " + what + ")", x.ifPassed(nights, what), model.ifPassed(nights, what));
        if (pick(8) == 0) {
            CHECK.due("nextMove()", x.nextMove(), model.nextMove());
        }
        if (pick(12) == 0) {
            nights = near(1, 20);
            what = near(0, 1);
            CHECK.due("bestHot(" + nights + ", " + what + ")", x.bestHot(nights, what), model.bestHot(nights, what));
        }
    }

    private static void compareAll() {
        for (int what = -1; what <= 27; what++) {
            CHECK.due("total(" + what + ")", x.total(what), model.total(what));
        }
        for (int block = -1; block <= model.now.soFar; block++) {
            for (int what = -1; what <= 9; what++) {
                CHECK.due("ofBlock(" + block + ", " + what + ")", x.ofBlock(block, what), model.ofBlock(block, what));
            }
        }
        for (int shelf = -1; shelf <= 3; shelf++) {
            for (int what = -1; what <= 5; what++) {
                CHECK.due("shelf(" + shelf + ", " + what + ")", x.shelf(shelf, what), model.shelf(shelf, what));
            }
        }
        for (int rank = -1; rank <= 25; rank++) {
            CHECK.due("block(" + rank + ")", x.block(rank), model.block(rank));
        }
    }
}
