import java.util.ArrayDeque;
import java.util.Deque;
import java.util.function.ToIntFunction;

/** The bounds that stand under "HISTORY" and "ERRORS" and in the promises 11 to 13, a test for each sentence. */
public final class BoundsOfHistoryTest {
    private static final Check CHECK = new Check();
    private static final Bound BOUND = new Bound(CHECK);

    public static void main(String[] args) {
        atMost4States();
        oldestIsDropped();
        changesAndUndosInTurn();
        changesRecord();
        sameStateIsRecorded();
        otherCallsRecordNothing();
        questionsChangeNothing();
        errorsRecordNothing();
        emptyHistory();
        noSnapshot();
        oneSnapshot();
        snapshotStays();
        countsOfBlocks();
        stateIsEverything();
        textIsNotInTheState();
        historyIsNotInTheState();
        snapshotIsNotInTheState();
        firstErrorOfSeveral();
        CHECK.end();
    }

    private static void due(String call, long got, long want) {
        CHECK.due(call, got, want);
    }

    private static void atMost4States() {
        CHECK.part("A history of at most 4 states is kept.");
        HeatShelves x = new HeatShelves();
        for (int i = 0; i < 9; i++) {
            due("states before", x.total(25), Math.min(i, 4));
            x.add(1);
        }
        due("states", x.total(25), 4);
        for (int left = 3; left >= 0; left--) {
            due("undo()", x.undo(), left);
            due("states", x.total(25), left);
        }
        due("undo()", x.undo(), -5);
        due("blocks of five changes", x.total(15), 5);
    }

    private static void oldestIsDropped() {
        CHECK.part("if there are 4 already, the oldest one is dropped.");
        for (int changes = 1; changes <= 9; changes++) {
            HeatShelves x = Bound.withBlocks(changes, 1);
            for (int undone = 1; undone <= Math.min(changes, 4); undone++) {
                x.undo();
                due("blocks of " + changes, x.total(15), changes - undone);
            }
            due("no more", x.undo(), -5);
            due("blocks then", x.total(15), Math.max(changes - 4, 0));
        }
    }

    /** Changes and undos in a pattern that goes around the history many times; each state has a FADE of its own. */
    private static void changesAndUndosInTurn() {
        CHECK.part("Restores the latest state of the history, and removes it from there.");
        HeatShelves x = new HeatShelves();
        Deque<Integer> history = new ArrayDeque<>();
        int now = 80;
        int[] runs = {1, 1, 3, 2, 5, 3, 4, 4, 2, 3, 6, 1, 1, 2, 7, 5, 4, 2, 2, 3, 5, 4, 1, 1};
        for (int i = 0; i < runs.length; i++) {
            for (int k = 0; k < runs[i]; k++) {
                if (i % 2 == 0) {
                    int next = (now + 7) % 101;
                    due("set", x.set(0, next), now);
                    history.addLast(now);
                    if (history.size() > 4) {
                        history.removeFirst();
                    }
                    now = next;
                } else {
                    due("undo()", x.undo(), history.isEmpty() ? -5 : history.size() - 1);
                    now = history.isEmpty() ? now : history.removeLast();
                }
                due("FADE", x.total(0), now);
                due("states", x.total(25), history.size());
            }
        }
    }

    private static void changesRecord() {
        CHECK.part("Each call of a method that is described as a change ... records the state before it");
        BOUND.isUndone("add(1)", x -> x.add(1));
        BOUND.isUndone("remove(0)", x -> x.remove(0));
        BOUND.isUndone("remove(1)", x -> x.remove(1));
        BOUND.isUndone("remove(2)", x -> x.remove(2));
        BOUND.isUndone("read(2, 99)", x -> x.read(2, 99));
        BOUND.isUndone("pin(4, false)", x -> x.pin(4, false));
        BOUND.isUndone("pin(0, true)", x -> x.pin(0, true));
        BOUND.isUndone("pass(1)", x -> x.pass(1));
        BOUND.isUndone("pass(99)", x -> x.pass(99));
        for (int i = 0; i < Bound.SETTINGS; i++) {
            int setting = i;
            BOUND.isUndone("set", x -> x.set(setting, x.total(setting) - (setting == Bound.ROOM + 2 ? 1 : -1)));
        }
        BOUND.isUndone("perform()", HeatShelves::perform);
        BOUND.isUndone("restore()", HeatShelves::restore);
    }

    private static void sameStateIsRecorded() {
        CHECK.part("returns neither an error nor NONE: also where the state stays the same");
        HeatShelves x = new HeatShelves();
        x.keep();
        due("restore()", x.restore(), 0);
        due("states", x.total(25), 1);
        due("restore()", x.restore(), 0);
        due("states", x.total(25), 2);
        x.add(1);
        due("there and back", Bound.perform(x, "p0,p0"), 2);
        due("states", x.total(25), 4);
        due("undo()", x.undo(), 3);
        due("the block is there", x.total(15), 1);
    }

    private static void otherCallsRecordNothing() {
        CHECK.part("Each call of a method that is described as a change: others record nothing");
        HeatShelves x = Bound.after(Bound::few);
        int states = x.total(25);
        x.type('x');
        x.perform();
        x.clearText();
        x.keep();
        x.block(0);
        x.nextMove();
        due("states", x.total(25), states);
        BOUND.same("keep() twice", BoundsOfHistoryTest::keepTwice, BoundsOfHistoryTest::keepOnce);
    }

    private static void questionsChangeNothing() {
        CHECK.part("---- what there is; what would be; nothing changes");
        BOUND.changesNothing("block(0)", x -> x.block(0));
        BOUND.changesNothing("ofBlock(0, 8)", x -> x.ofBlock(0, 8));
        BOUND.changesNothing("shelf(0, 4)", x -> x.shelf(0, 4));
        BOUND.changesNothing("total(26)", x -> x.total(26));
        BOUND.changesNothing("ifPassed(99, 5)", x -> x.ifPassed(99, 5));
        BOUND.changesNothing("nextMove()", x -> x.nextMove());
        BOUND.changesNothing("bestHot(20, 1)", x -> x.bestHot(20, 1));
        BOUND.changesNothing("cheapest(4, 999)", x -> x.cheapest(4, 999));
    }

    private static void keepOnce(HeatShelves x) {
        Bound.few(x);
        x.keep();
    }

    private static void keepTwice(HeatShelves x) {
        keepOnce(x);
        x.keep();
    }

    private static void errorsRecordNothing() {
        CHECK.part("A method that returns an error or NONE changes nothing.");
        BOUND.changesNothing("add(10)", x -> x.add(10), -2);
        BOUND.changesNothing("remove(999)", x -> x.remove(999), -1);
        BOUND.changesNothing("read(999, 1)", x -> x.read(999, 1), -1);
        BOUND.changesNothing("pin(999, true)", x -> x.pin(999, true), -1);
        BOUND.changesNothingWithBlocks("pin(4, true)", x -> x.pin(4, true), -5);
        BOUND.changesNothing("pass(100)", x -> x.pass(100), -2);
        BOUND.changesNothing("set(0, 80)", x -> x.set(0, 80), -5);
        BOUND.changesNothing("set(2, 3001)", x -> x.set(2, 3001), -4);
        BOUND.changesNothing(x -> Bound.perform(x, "+"), "perform()", HeatShelves::perform, -101);
        BOUND.changesNothing(Bound::none, "undo()", HeatShelves::undo, -5);
        BOUND.changesNothing(Bound::none, "restore()", HeatShelves::restore, -5);
    }

    private static void emptyHistory() {
        CHECK.part("Returns how many states are left; NONE if the history is empty.");
        due("undo() of a new object", new HeatShelves().undo(), -5);
        HeatShelves x = Bound.withBlocks(1, 9);
        due("the only one", x.undo(), 0);
        due("no more", x.undo(), -5);
        due("no block", x.total(15), 0);
        BOUND.changesNothing(BoundsOfHistoryTest::undoneAll, "undo()", HeatShelves::undo, -5);
        x = Bound.after(BoundsOfHistoryTest::undoneAll);
        due("a change after that", x.add(1), 1);
        due("states", x.total(25), 1);
        due("undo()", x.undo(), 0);
    }

    private static void undoneAll(HeatShelves x) {
        Bound.rich(x);
        for (int i = 0; i < 4; i++) {
            x.undo();
        }
    }

    private static void noSnapshot() {
        CHECK.part("There is one snapshot, empty at first: NONE if there is no snapshot.");
        BOUND.changesNothing(Bound::none, "restore()", HeatShelves::restore, -5);
        BOUND.changesNothing(x -> x.add(9), "restore()", HeatShelves::restore, -5);
        HeatShelves x = Bound.withBlocks(2, 9);
        due("restore()", x.restore(), -5);
        due("keep()", x.keep(), 2);
        due("restore()", x.restore(), 2);
    }

    private static void oneSnapshot() {
        CHECK.part("Takes a snapshot of the state, in place of an earlier one.");
        HeatShelves x = new HeatShelves();
        due("keep()", x.keep(), 0);
        x.add(1);
        due("keep()", x.keep(), 1);
        x.add(1);
        due("keep()", x.keep(), 2);
        x.remove(0);
        x.remove(1);
        due("restore() the latest", x.restore(), 2);
        due("undo()", x.undo(), 3);
        due("restore() the latest again", x.restore(), 2);
    }

    private static void snapshotStays() {
        CHECK.part("Restores the state of the snapshot, which stays.");
        HeatShelves x = Bound.withBlocks(1, 9);
        x.keep();
        for (int i = 0; i < 6; i++) {
            x.read(0, 3);
            x.pin(0, true);
            x.pass(2);
            x.add(1);
            due("restore()", x.restore(), 1);
            due("heat", x.ofBlock(0, 1), 1000);
            due("pin", x.ofBlock(0, 4), 0);
            due("nights", x.total(17), 0);
            due("blocks so far", x.total(16), 1);
            due("states", x.total(25), 4);
        }
    }

    private static void countsOfBlocks() {
        CHECK.part("Returns how many blocks there are (then).");
        HeatShelves x = new HeatShelves();
        due("keep() none", x.keep(), 0);
        for (int i = 0; i < 24; i++) {
            x.add(1);
        }
        due("restore() none", x.restore(), 0);
        due("undo()", x.undo(), 3);
        due("keep() 24", x.keep(), 24);
        x.remove(3);
        due("restore() 24", x.restore(), 24);
        due("the 25th", x.add(1), -3);
    }

    private static void stateIsEverything() {
        CHECK.part("The state is everything except the text, the history and the snapshot.");
        BOUND.same("keep(), changes, restore() and five undos", y -> {
            keepOnce(y);
            y.pass(9);
            y.remove(2);
            y.set(Bound.FEE, 9);
            Bound.perform(y, "+1,r3,p0,n9");
            y.restore();
            forgetHistory(y);
        }, y -> {
            keepOnce(y);
            forgetHistory(y);
        });
    }

    /** Leaves the text, and four times the same state in the history. */
    private static void forgetHistory(HeatShelves x) {
        x.clearText();
        x.keep();
        for (int i = 0; i < 5; i++) {
            x.restore();
        }
    }

    private static void textIsNotInTheState() {
        CHECK.part("The state is everything except the text");
        HeatShelves x = new HeatShelves();
        Bound.type(x, "n1");
        x.keep();
        x.add(1);
        Bound.type(x, ",n2");
        due("undo()", x.undo(), 0);
        due("length", x.total(26), 5);
        due("restore()", x.restore(), 0);
        due("length", x.total(26), 5);
        due("perform()", x.perform(), 2);
        due("nights", x.total(17), 3);
    }

    private static void historyIsNotInTheState() {
        CHECK.part("The state is everything except the history");
        HeatShelves x = Bound.withBlocks(3, 1);
        x.keep();
        x.undo();
        x.undo();
        due("states", x.total(25), 1);
        due("restore()", x.restore(), 3);
        due("states", x.total(25), 2);
        due("undo()", x.undo(), 1);
        due("blocks", x.total(15), 1);
    }

    private static void snapshotIsNotInTheState() {
        CHECK.part("The state is everything except the snapshot");
        HeatShelves x = Bound.withBlocks(2, 1);
        x.keep();
        due("undo()", x.undo(), 1);
        due("undo()", x.undo(), 0);
        due("it is still there", x.restore(), 2);
        due("undo()", x.undo(), 0);
        due("also after that", x.restore(), 2);
    }

    private static void firstError(String call, ToIntFunction<HeatShelves> made, int want) {
        BOUND.changesNothingWithBlocks(call, made, want);
    }

    private static void firstErrorOfSeveral() {
        CHECK.part("If several errors apply, the one that stands first in the @return line is returned.");
        firstError("read(5, 0)", x -> x.read(5, 0), -1);
        firstError("read(5, 100)", x -> x.read(5, 100), -1);
        firstError("set(-1, -1)", x -> x.set(-1, -1), -1);
        firstError("set(15, 20001)", x -> x.set(15, 20001), -1);
        firstError("set(2, 20001): WARM above HOT, too", x -> x.set(2, 20001), -2);
        firstError("set(1, -1): HOT below WARM, too", x -> x.set(1, -1), -2);
        firstError("set(6, -1): less than what is there, too", x -> x.set(6, -1), -2);
        firstError("ofBlock(5, 9)", x -> x.ofBlock(5, 9), -1);
        firstError("shelf(3, 5)", x -> x.shelf(3, 5), -1);
        firstError("shelf(-1, -1)", x -> x.shelf(-1, -1), -1);
        firstError("cheapest(5, 1000)", x -> x.cheapest(5, 1000), -1);
        firstError("pin(5, false)", x -> x.pin(5, false), -1);
        HeatShelves x = Bound.withBlocks(24, 1);
        due("add(10) to 24 blocks", x.add(10), -2);
        due("add(0) to 24 blocks", x.add(0), -2);
        x = Bound.after(Bound::allNights);
        due("pass(100) after 5000 nights", x.pass(100), -2);
        due("pass(0) after 5000 nights", x.pass(0), -2);
        due("pass(1) after 5000 nights", x.pass(1), -3);
    }
}
