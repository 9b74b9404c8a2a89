import java.util.ArrayList;
import java.util.Comparator;
import java.util.List;

/**
 * The document once more, for comparison: blocks are objects, states are copied whole, and the
 * text is judged by trying every way in which it could go on.
 */
final class Model {
    static final class Block {
        int number;
        int size;
        int heat = 1000;
        int shelf;
        boolean pinned;
        int promise;
        int reads;
        int moves;
        int why;

        Block copy() {
            Block b = new Block();
            b.number = number;
            b.size = size;
            b.heat = heat;
            b.shelf = shelf;
            b.pinned = pinned;
            b.promise = promise;
            b.reads = reads;
            b.moves = moves;
            return b;
        }
    }

    static final class World {
        int[] settings = {80, 3000, 500, 4, 5, 2, 20, 40, 200, 10, 4, 1, 0, 2, 9};
        List<Block> blocks = new ArrayList<>();
        int soFar;
        int nights;
        int paidNights;
        int paidReadings;
        int paidFees;
        int nightMoves;
        int askedBack;

        World copy() {
            World w = new World();
            w.settings = settings.clone();
            for (Block b : blocks) {
                w.blocks.add(b.copy());
            }
            w.soFar = soFar;
            w.nights = nights;
            w.paidNights = paidNights;
            w.paidReadings = paidReadings;
            w.paidFees = paidFees;
            w.nightMoves = nightMoves;
            w.askedBack = askedBack;
            return w;
        }

        Block get(int number) {
            return blocks.stream().filter(b -> b.number == number).findFirst().orElse(null);
        }

        int sizeOn(int shelf) {
            return blocks.stream().filter(b -> b.shelf == shelf).mapToInt(b -> b.size).sum();
        }

        int heat() {
            return blocks.stream().mapToInt(b -> b.heat).sum();
        }

        int pinned() {
            return (int) blocks.stream().filter(b -> b.pinned).count();
        }

        boolean fits(Block b, int shelf) {
            return sizeOn(shelf) + b.size <= settings[6 + shelf];
        }

        int wanted(Block b) {
            return b.heat >= settings[1] ? 0 : b.heat >= settings[2] ? 1 : 2;
        }

        int add(int size) {
            if (size < 1 || size > 9) {
                return -2;
            }
            Block b = new Block();
            b.number = soFar;
            b.size = size;
            if (blocks.size() == 24 || soFar > 999) {
                return -3;
            }
            for (b.shelf = 0; b.shelf < 3; b.shelf++) {
                if (fits(b, b.shelf)) {
                    blocks.add(b);
                    return soFar++;
                }
            }
            return -3;
        }

        int remove(int number) {
            Block b = get(number);
            if (b == null) {
                return -1;
            }
            blocks.remove(b);
            return b.shelf;
        }

        int read(int number, int times) {
            Block b = get(number);
            if (b == null) {
                return -1;
            }
            if (times < 1 || times > 99) {
                return -2;
            }
            int before = paidReadings + paidFees;
            for (int i = 0; i < times; i++) {
                paidReadings += b.size * settings[12 + b.shelf];
                b.heat = Math.min(99999, b.heat + 1000);
                b.reads++;
                if (b.shelf == 2) {
                    askedBack++;
                    paidFees += b.size * settings[5] * b.promise;
                    b.promise = 0;
                    int to = fits(b, 0) ? 0 : fits(b, 1) ? 1 : 2;
                    b.moves += to == 2 ? 0 : 1;
                    b.shelf = to;
                }
            }
            return paidReadings + paidFees - before;
        }

        int pin(int number, boolean pinned) {
            Block b = get(number);
            if (b == null) {
                return -1;
            }
            if (b.pinned == pinned) {
                return -5;
            }
            b.pinned = pinned;
            return pinned();
        }

        int pass(int count) {
            if (count < 1 || count > 99) {
                return -2;
            }
            if (nights + count > 5000) {
                return -3;
            }
            return passFreely(count);
        }

        int passFreely(int count) {
            int before = nightMoves;
            for (int i = 0; i < count; i++) {
                night();
            }
            return nightMoves - before;
        }

        void night() {
            nights++;
            for (Block b : blocks) {
                paidNights += b.size * settings[9 + b.shelf];
                b.heat = b.heat * settings[0] / 100;
                b.promise -= b.promise > 0 ? 1 : 0;
                b.why = b.pinned ? 1 : b.promise > 0 ? 2 : wanted(b) == b.shelf ? 3 : 0;
            }
            int[] left = {settings[3]};
            List<Block> down = new ArrayList<>(blocks);
            down.removeIf(b -> b.why != 0 || wanted(b) <= b.shelf);
            down.sort(Comparator.comparingInt((Block b) -> b.heat).thenComparingInt(b -> b.number));
            List<Block> up = new ArrayList<>(blocks);
            up.removeIf(b -> b.why != 0 || wanted(b) >= b.shelf);
            up.sort(Comparator.comparingInt((Block b) -> -b.heat).thenComparingInt(b -> b.number));
            down.forEach(b -> turn(b, left));
            up.forEach(b -> turn(b, left));
        }

        void turn(Block b, int[] left) {
            if (left[0] == 0) {
                b.why = 4;
                return;
            }
            int to = -1;
            if (fits(b, wanted(b))) {
                to = wanted(b);
            } else if (b.shelf == 0 && wanted(b) == 2 && fits(b, 1)) {
                to = 1;
            } else if (b.shelf == 2 && wanted(b) == 0 && fits(b, 1)) {
                to = 1;
            }
            if (to < 0) {
                b.why = 5;
                return;
            }
            left[0]--;
            b.shelf = to;
            b.moves++;
            nightMoves++;
            b.promise = to == 2 ? settings[4] : b.promise;
        }

        int set(int setting, int value) {
            int[] most = {100, 20000, 20000, 24, 30, 50, 200, 200, 200, 50, 50, 50, 50, 50, 50};
            if (setting < 0 || setting > 14) {
                return -1;
            }
            if (value < 0 || value > most[setting]) {
                return -2;
            }
            int before = settings[setting];
            settings[setting] = value;
            boolean fits = settings[2] <= settings[1];
            for (int shelf = 0; shelf < 3; shelf++) {
                fits &= sizeOn(shelf) <= settings[6 + shelf];
            }
            if (!fits) {
                return -4;
            }
            return before == value ? -5 : before;
        }
    }

    World now = new World();
    World snapshot = null;
    List<World> history = new ArrayList<>();
    StringBuilder text = new StringBuilder();

    private int settle(World next, int answer) {
        if (answer >= 0) {
            history.add(now);
            if (history.size() > 4) {
                history.remove(0);
            }
            now = next;
        }
        return answer;
    }

    int add(int size) {
        World w = now.copy();
        return settle(w, w.add(size));
    }

    int remove(int block) {
        World w = now.copy();
        return settle(w, w.remove(block));
    }

    int read(int block, int times) {
        World w = now.copy();
        return settle(w, w.read(block, times));
    }

    int pin(int block, boolean pinned) {
        World w = now.copy();
        return settle(w, w.pin(block, pinned));
    }

    int pass(int nights) {
        World w = now.copy();
        return settle(w, w.pass(nights));
    }

    int set(int setting, int value) {
        World w = now.copy();
        return settle(w, w.set(setting, value));
    }

    int type(char c) {
        if (text.length() == 60) {
            return -3;
        }
        return text.append(c).length();
    }

    int clearText() {
        int before = text.length();
        text.setLength(0);
        return before;
    }

    private static final String SIZE = "\\+[1-9]";
    private static final String BLOCK = "[-rp](0|[1-9][0-9]{0,2})";
    private static final String TIMES = "r(0|[1-9][0-9]{0,2})\\*[1-9][0-9]?";
    private static final String NIGHTS = "n[1-9][0-9]?";
    private static final String ORDER = "(" + SIZE + "|" + BLOCK + "|" + TIMES + "|" + NIGHTS + ")";
    private static final String WHOLE = ORDER + "(," + ORDER + ")*";

    /** Whether some text of orders begins so: whatever an order lacks, one of these ends supplies. */
    private static boolean isBeginning(String s) {
        return s.isEmpty() || s.matches(WHOLE) || (s + "1").matches(WHOLE) || (s + "n1").matches(WHOLE);
    }

    int fault() {
        String s = text.toString();
        if (s.matches(WHOLE)) {
            return -1;
        }
        int good = 0;
        while (good < s.length() && isBeginning(s.substring(0, good + 1))) {
            good++;
        }
        return good;
    }

    int perform() {
        int fault = fault();
        if (fault >= 0) {
            return -100 - fault;
        }
        World w = now.copy();
        String[] orders = text.toString().split(",");
        for (String order : orders) {
            int answer = performOne(w, order);
            if (answer < 0) {
                return answer;
            }
        }
        return settle(w, orders.length);
    }

    private static int performOne(World w, String order) {
        String[] parts = order.substring(1).split("\\*");
        int n = Integer.parseInt(parts[0]);
        switch (order.charAt(0)) {
            case '+': return w.add(n);
            case '-': return w.remove(n);
            case 'r': return w.read(n, parts.length > 1 ? Integer.parseInt(parts[1]) : 1);
            case 'p': return w.pin(n, w.get(n) == null || !w.get(n).pinned);
            default: return w.pass(n);
        }
    }

    int undo() {
        if (history.isEmpty()) {
            return -5;
        }
        now = history.remove(history.size() - 1);
        return history.size();
    }

    int keep() {
        snapshot = now.copy();
        return snapshot.blocks.size();
    }

    int restore() {
        return snapshot == null ? -5 : settle(snapshot.copy(), snapshot.blocks.size());
    }

    int block(int rank) {
        if (rank < 0) {
            return -2;
        }
        List<Block> sorted = new ArrayList<>(now.blocks);
        sorted.sort(Comparator.comparingInt((Block b) -> -b.heat).thenComparingInt(b -> b.number));
        return rank < sorted.size() ? sorted.get(rank).number : -5;
    }

    int ofBlock(int block, int what) {
        Block b = now.get(block);
        if (b == null) {
            return -1;
        }
        if (what < 0 || what > 8) {
            return -2;
        }
        World next = now.copy();
        next.night();
        int[] all = {b.size, b.heat, b.shelf, now.wanted(b), b.pinned ? 1 : 0, b.promise, b.reads, b.moves,
            next.get(block).why};
        return all[what];
    }

    int shelf(int shelf, int what) {
        if (shelf < 0 || shelf > 2) {
            return -1;
        }
        if (what < 0 || what > 4) {
            return -2;
        }
        int count = 0;
        int heat = 0;
        int price = 0;
        for (Block b : now.blocks) {
            if (b.shelf == shelf) {
                count++;
                heat += b.heat;
                price += b.size * now.settings[9 + shelf];
            }
        }
        return new int[] {now.settings[6 + shelf], now.sizeOn(shelf), count, heat, price}[what];
    }

    int total(int what) {
        if (what < 0 || what > 26) {
            return -2;
        }
        if (what < 15) {
            return now.settings[what];
        }
        int[] rest = {now.blocks.size(), now.soFar, now.nights, now.paidNights, now.paidReadings, now.paidFees,
            now.nightMoves, now.askedBack, now.pinned(), now.heat(), history.size(), text.length()};
        return rest[what - 15];
    }

    int ifPassed(int nights, int what) {
        if (nights < 1 || nights > 99 || what < 0 || what > 5) {
            return -2;
        }
        World w = now.copy();
        int moves = w.passFreely(nights);
        int[] all = {w.paidNights - now.paidNights, moves, w.heat(), w.sizeOn(0), w.sizeOn(1), w.sizeOn(2)};
        return all[what];
    }

    int nextMove() {
        World w = now.copy();
        for (int nights = 1; nights <= 99; nights++) {
            if (w.passFreely(1) > 0) {
                return nights;
            }
        }
        return -5;
    }

    int bestHot(int nights, int what) {
        if (nights < 1 || nights > 20 || what < 0 || what > 1) {
            return -2;
        }
        int[] best = {-1, Integer.MAX_VALUE};
        for (int hot = 20000; hot >= now.settings[2]; hot -= 500) {
            World w = now.copy();
            w.settings[1] = hot;
            w.passFreely(nights);
            int paid = w.paidNights - now.paidNights;
            if (paid <= best[1]) {
                best = new int[] {hot, paid};
            }
        }
        return best[what];
    }

    int cheapest(int block, int readings) {
        Block b = now.get(block);
        if (b == null) {
            return -1;
        }
        if (readings < 0 || readings > 999) {
            return -2;
        }
        int best = 2;
        for (int shelf = 1; shelf >= 0; shelf--) {
            if (price(b, shelf, readings) <= price(b, best, readings)) {
                best = shelf;
            }
        }
        return best;
    }

    private int price(Block b, int shelf, int readings) {
        return b.size * (10 * now.settings[9 + shelf] + readings * now.settings[12 + shelf]);
    }
}
