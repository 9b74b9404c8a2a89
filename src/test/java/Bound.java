import java.util.ArrayList;
import java.util.List;
import java.util.function.Consumer;
import java.util.function.ToIntFunction;

/** What the tests of the bounds share: objects with a past, and whether a call left everything as it was. */
final class Bound {
    static final int FADE = 0;
    static final int HOT = 1;
    static final int WARM = 2;
    static final int MOVES = 3;
    static final int PROMISE = 4;
    static final int FEE = 5;
    static final int ROOM = 6;
    static final int NIGHT_PRICE = 9;
    static final int READING_PRICE = 12;
    static final int SETTINGS = 15;

    static final int SHELF = 2;
    static final int WANTED = 3;
    static final int PROMISED = 5;
    static final int MOVED = 7;
    static final int WHY = 8;

    /** The text that few and rich leave. */
    static final String TEXT = "p0,r3*2,n1";

    private final Check check;

    Bound(Check check) {
        this.check = check;
    }

    static int firstValue(int setting) {
        return new int[] {80, 3000, 500, 4, 5, 2, 20, 40, 200, 10, 4, 1, 0, 2, 9}[setting];
    }

    static int greatestValue(int setting) {
        return new int[] {100, 20000, 20000, 24, 30, 50, 200, 200, 200, 50, 50, 50, 50, 50, 50}[setting];
    }

    // ---- pasts; each leaves room for a comparison within the 512 calls of an object

    static void none(HeatShelves x) {
    }

    /**
     * Blocks 0 to 4 in two changes: 0 and 2 deep and promised, 1 asked back from there to the fast
     * shelf, 3 still warm, 4 deep, promised and pinned. The snapshot holds block 0 alone.
     */
    static void few(HeatShelves x) {
        x.add(3);
        x.keep();
        perform(x, "+9,+8,+9,+5,r3*3,n4,r1,p4");
        x.clearText();
        type(x, TEXT);
    }

    /** The same and three changes more, so that the history is full. */
    static void rich(HeatShelves x) {
        few(x);
        x.set(WARM, 600);
        x.read(3, 1);
        x.pass(1);
    }

    static HeatShelves after(Consumer<HeatShelves> past) {
        HeatShelves x = new HeatShelves();
        past.accept(x);
        return x;
    }

    static HeatShelves withBlocks(int count, int size) {
        HeatShelves x = new HeatShelves();
        for (int i = 0; i < count; i++) {
            x.add(size);
        }
        return x;
    }

    /** One block, 0, with the heat 1000 that does not fade; it is neither promised nor wanted elsewhere. */
    static HeatShelves onShelf(int shelf, int size) {
        HeatShelves x = new HeatShelves();
        x.set(FADE, 100);
        wish(x, shelf);
        for (int faster = 0; faster < shelf; faster++) {
            x.set(ROOM + faster, 0);
        }
        x.add(size);
        for (int faster = 0; faster < shelf; faster++) {
            x.set(ROOM + faster, firstValue(ROOM + faster));
        }
        return x;
    }

    /** Makes a shelf the wanted one of every block with a heat below 20000. */
    static void wish(HeatShelves x, int shelf) {
        x.set(WARM, 0);
        x.set(HOT, shelf == 0 ? 0 : 20000);
        x.set(WARM, shelf == 2 ? 20000 : 0);
    }

    static void setRooms(HeatShelves x, int fast, int slow, int deep) {
        x.set(ROOM, fast);
        x.set(ROOM + 1, slow);
        x.set(ROOM + 2, deep);
    }

    static void type(HeatShelves x, String text) {
        for (char c : text.toCharArray()) {
            x.type(c);
        }
    }

    static int perform(HeatShelves x, String text) {
        x.clearText();
        type(x, text);
        return x.perform();
    }

    /** 5000 nights, the most, in 51 calls. */
    static void allNights(HeatShelves x) {
        for (int i = 0; i < 50; i++) {
            x.pass(99);
        }
        x.pass(50);
    }

    // ---- comparisons

    /** A call answers as it should after that past, and whatever comes then is as if it had not been called. */
    void changesNothing(Consumer<HeatShelves> past, String call, ToIntFunction<HeatShelves> made, int want) {
        check.due(call, made.applyAsInt(after(past)), want);
        same(call, past.andThen(x -> made.applyAsInt(x)), past);
    }

    /** The same in a new object, and after a short past and a long one. */
    void changesNothing(String call, ToIntFunction<HeatShelves> made, int want) {
        changesNothing(Bound::none, call, made, want);
        changesNothingWithBlocks(call, made, want);
    }

    /** The same where the blocks 0 to 4 are there. */
    void changesNothingWithBlocks(String call, ToIntFunction<HeatShelves> made, int want) {
        changesNothing(Bound::few, call, made, want);
        changesNothing(Bound::rich, call, made, want);
    }

    /** A question, whatever its answer is, in the same pasts. */
    void changesNothing(String call, Consumer<HeatShelves> made) {
        List<Consumer<HeatShelves>> pasts = List.of(Bound::none, Bound::few, Bound::rich);
        for (Consumer<HeatShelves> past : pasts) {
            same(call, past.andThen(made), past);
        }
    }

    /** A change records the state before it: one undo, and whatever comes then is as if neither had been called. */
    void isUndone(String call, Consumer<HeatShelves> made) {
        Consumer<HeatShelves> past = Bound::few;
        check.due(call + " is recorded", after(past.andThen(made)).total(25), 3);
        same(call + " and undo()", past.andThen(made).andThen(HeatShelves::undo), past);
    }

    /** Two pasts leave the same text, history, snapshot and state. */
    void same(String name, Consumer<HeatShelves> onePast, Consumer<HeatShelves> otherPast) {
        List<ToIntFunction<HeatShelves>> futures = futures();
        for (int i = 0; i < futures.size(); i++) {
            HeatShelves one = after(onePast);
            HeatShelves other = after(otherPast);
            String then = name + ", in future " + i;
            check.due(then, futures.get(i).applyAsInt(one), futures.get(i).applyAsInt(other));
            check.holds(then + " all is the same", answers(one).equals(answers(other)));
        }
    }

    // Text, history and snapshot can't be asked for: what is in them shows when they are used. What
    // a call leaves that is no part of the state may show in the next change alone.
    private static List<ToIntFunction<HeatShelves>> futures() {
        List<ToIntFunction<HeatShelves>> futures = new ArrayList<>();
        futures.add(x -> 0);
        futures.add(x -> x.add(1));
        futures.add(x -> x.remove(0));
        futures.add(x -> x.read(1, 2));
        futures.add(x -> x.pin(0, true));
        futures.add(x -> x.pass(1));
        futures.add(x -> x.set(FEE, 7));
        futures.add(HeatShelves::perform);
        futures.add(HeatShelves::restore);
        futures.add(x -> x.restore() + 10 * x.undo());
        futures.add(x -> x.type(',') + 10 * x.type('n') + 1000 * x.type('2') + 10000 * x.perform());
        for (int undone = 1; undone <= 5; undone++) {
            int times = undone;
            futures.add(x -> undo(x, times));
        }
        return futures;
    }

    private static int undo(HeatShelves x, int times) {
        int last = 0;
        for (int i = 0; i < times; i++) {
            last = x.undo();
        }
        return last;
    }

    private static List<Integer> answers(HeatShelves x) {
        List<Integer> answers = new ArrayList<>();
        for (int what = 0; what <= 26; what++) {
            answers.add(x.total(what));
        }
        int blocks = x.total(15);
        for (int rank = 0; rank < blocks; rank++) {
            int block = x.block(rank);
            answers.add(block);
            for (int what = 0; what <= 8; what++) {
                answers.add(x.ofBlock(block, what));
            }
        }
        for (int shelf = 0; shelf < 3; shelf++) {
            for (int what = 0; what <= 4; what++) {
                answers.add(x.shelf(shelf, what));
            }
        }
        for (int what = 0; what <= 5; what++) {
            answers.add(x.ifPassed(3, what));
        }
        answers.add(x.nextMove());
        answers.add(x.bestHot(3, 0));
        return answers;
    }
}
