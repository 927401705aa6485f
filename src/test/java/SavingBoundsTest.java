import java.util.ArrayList;
import java.util.List;
import java.util.function.Consumer;

/** The sentences of promises 18 to 20 that name a bound: undo, save, restore; and what is a change at all. */
final class SavingBoundsTest {
    private static final int BAD_VALUE = -2, NOT_POSSIBLE = -5, NONE = -6;
    private static final int MIN = Integer.MIN_VALUE, MAX = Integer.MAX_VALUE;

    private SavingBoundsTest() {
    }

    public static void main(String[] args) {
        nothingToUndo();
        sixToUndo();
        oldestIsDropped();
        undoneAndFilledAgain();
        undoIsNoChange();
        eachChangeIsRecorded();
        nothingDifferentIsRecorded();
        tellingIsNotRecorded();
        undoLeavesThePad();
        undoLeavesTheSlots();
        undoBringsAllBack();
        saveAtItsBounds();
        saveOverwrites();
        saveTakesAllButThePad();
        restoreErrors();
        restoreIsKept();
        restoreIsAChange();
        restoreLeavesPadAndHistory();
        Due.end("SavingBoundsTest");
    }

    private static void nothingToUndo() {
        Due.about("Promise 18", "Returns how many changes can be undone then; NOT_POSSIBLE if there is none.");
        BeamTurnstiles x = new BeamTurnstiles();
        Due.due("a new object", x.undo(), NOT_POSSIBLE);
        Due.due("changes", x.count(17), 0);
        x.pass(1);
        Due.due("undo", x.undo(), 0);
        Due.due("undo again", x.undo(), NOT_POSSIBLE);
        Due.due("and again", x.undo(), NOT_POSSIBLE);
        Due.due("changes", x.count(17), 0);
        Due.due("ticks", x.count(3), 0);
    }

    private static void sixToUndo() {
        Due.about("Promise 18", "A history of at most 6 states is kept");
        for (int changes = 1; changes <= 20; changes++) {
            BeamTurnstiles x = new BeamTurnstiles();
            for (int k = 0; k < changes; k++) {
                x.pass(1);
            }
            int kept = Math.min(changes, 6);
            Due.due("kept of " + changes, x.count(17), kept);
            for (int k = 1; k <= kept; k++) {
                Due.due("undo " + k + " of " + changes, x.undo(), kept - k);
                Due.due("ticks", x.count(3), changes - k);
            }
            Due.due("no more of " + changes, x.undo(), NOT_POSSIBLE);
            Due.due("ticks", x.count(3), changes - kept);
        }
    }

    private static void oldestIsDropped() {
        Due.about("Promise 18", "when one more is recorded, the oldest one is dropped.");
        BeamTurnstiles x = new BeamTurnstiles();
        for (int people = 1; people <= 7; people++) {
            x.correct(people);
        }
        Due.due("six yet", x.count(17), 6);
        for (int people = 6; people >= 1; people--) {
            x.undo();
            Due.due("people", x.count(4), people);
        }
        Due.due("0 is dropped", x.undo(), NOT_POSSIBLE);
        Due.due("people", x.count(4), 1);
    }

    private static void undoneAndFilledAgain() {
        Due.about("Promise 18",
            "A history of at most 6 states is kept: each method that is a change, and returns no error, "
            + "records the state before it");
        for (int undone = 1; undone <= 6; undone++) {
            for (int more = 1; more <= 8; more++) {
                BeamTurnstiles x = new BeamTurnstiles();
                List<Integer> states = new ArrayList<>();
                addChanges(x, states, 9);
                for (int k = 0; k < undone; k++) {
                    x.undo();
                    states.remove(states.size() - 1);
                }
                addChanges(x, states, more);
                Due.due("kept", x.count(17), Math.min(6 - undone + more, 6));
                while (x.count(17) > 0) {
                    x.undo();
                    Due.due("undone " + undone + ", " + more + " more", x.count(4), states.remove(states.size() - 1));
                }
            }
        }
    }

    private static void addChanges(BeamTurnstiles x, List<Integer> states, int changes) {
        for (int k = 0; k < changes; k++) {
            states.add(x.count(4));
            x.correct((x.count(4) * 7 + 11) % 1000);
        }
    }

    private static void undoIsNoChange() {
        Due.about("Promise 18", "Undoes the latest change");
        BeamTurnstiles x = new BeamTurnstiles();
        x.correct(1);
        x.correct(2);
        x.correct(3);
        Due.due("undo", x.undo(), 2);
        Due.due("back to 2", x.count(4), 2);
        Due.due("undo", x.undo(), 1);
        Due.due("back to 1, not to 3", x.count(4), 1);
    }

    private static void eachChangeIsRecorded() {
        Due.about("Promise 18", "each method that is a change, and returns no error, records the state before it");
        recordedOnce("set", x -> x.set(0, 1));
        Due.about("Promise 2", "This is a change.");
        recordedOnce("set", x -> x.set(2, 1));
        Due.about("Promise 3", "This is a change.");
        recordedOnce("event", x -> x.event(1, 0));
        recordedOnce("event of both beams", x -> x.event(1, 2));
        Due.about("Promise 4", "This is a change.");
        recordedOnce("pass", x -> x.pass(999));
        Due.about("Promise 5", "This is a change.");
        recordedOnce("read", x -> Due.readText(x, "0ioi;.99;1oioi;.1;2b;3bb"));
        Due.about("Promise 6", "This is a change.");
        recordedOnce("correct", x -> x.correct(9));
        Due.about("Promise 7", "This is a change.");
        recordedOnce("clear", x -> x.clear(0));
        Due.about("Promise 20", "This is a change.");
        recordedOnce("restore", x -> x.restore(1));
    }

    private static void recordedOnce(String call, Consumer<BeamTurnstiles> change) {
        for (int before : new int[] {1, 5, 6, 7}) {
            BeamTurnstiles x = new BeamTurnstiles();
            x.save(1);
            for (int k = 1; k < before; k++) {
                x.pass(1);
            }
            x.event(0, 0);
            String state = Whole.state(x);
            change.accept(x);
            Due.due(call + ": recorded behind " + before, x.count(17), Math.min(before + 1, 6));
            Due.due(call + ": something changes", Whole.state(x).equals(state) ? 1 : 0, 0);
            Due.due(call + ": undo", x.undo(), Math.min(before, 5));
            Due.same(call + ": the state behind undo", Whole.state(x), state);
        }
    }

    private static void nothingDifferentIsRecorded() {
        Due.about("Promise 18", "(also if nothing is different then)");
        BeamTurnstiles x = new BeamTurnstiles();
        x.save(0);
        Due.due("set", x.set(0, 30), 30);
        Due.due("changes", x.count(17), 1);
        Due.due("correct", x.correct(0), 0);
        Due.due("changes", x.count(17), 2);
        Due.due("restore", x.restore(0), 0);
        Due.due("changes", x.count(17), 3);
        BeamTurnstiles y = Due.atTick(99999);
        for (int k = 0; k < 6; k++) {
            Due.due("undo", y.undo(), 5 - k);
        }
        for (int ticks : new int[] {999, 999, 999, 999, 999, 99}) {
            y.pass(ticks);
        }
        y.undo();
        y.pass(99);
        Due.due("the end again", y.count(3), 99999);
        y.undo();
        Due.due("five to undo", y.count(17), 5);
        y.pass(99);
        y.undo();
        Due.readText(y, ".99");
        Due.due("six to undo", y.count(17), 6);
        Due.readText(y, ".1");
        Due.due("ticks that are passed over", y.undo(), 5);
        Due.due("at the end yet", y.count(3), 99999);
        y.undo();
        Due.due("before the end", y.count(3), 99900);
    }

    private static void tellingIsNotRecorded() {
        Due.about("Promise 18", "each method that is a change");
        BeamTurnstiles x = Due.after("0oi;1oioi");
        Due.putText(x, "0oi");
        Whole.state(x);
        Whole.answers(x);
        x.save(0);
        x.save(1);
        x.put('i');
        x.fault();
        x.wipe();
        Due.due("changes", x.count(17), 1);
        Due.due("undo", x.undo(), 0);
        Due.same("all as at first", Whole.state(x), Whole.state(new BeamTurnstiles()));
    }

    private static void undoLeavesThePad() {
        Due.about("Promise 18", "everything except the pad, the slots and the history is as it was before it.");
        BeamTurnstiles x = new BeamTurnstiles();
        Due.putText(x, "0o");
        x.pass(1);
        Due.append(x, ";.5");
        x.undo();
        Due.due("length", x.count(16), 5);
        Due.due("read", x.read(), 0);
        Due.due("ticks", x.count(3), 5);
        x.undo();
        Due.due("the text that was read doesn't come back", x.count(16), 0);
        Due.due("its events are undone", x.count(15), 0);
    }

    private static void undoLeavesTheSlots() {
        Due.about("Promise 18", "everything except the pad, the slots and the history is as it was before it.");
        BeamTurnstiles x = new BeamTurnstiles();
        x.correct(4);
        x.save(0);
        x.undo();
        Due.due("saved yet", x.restore(0), 4);
        x.undo();
        x.correct(7);
        Due.due("save", x.save(0), 7);
        x.undo();
        Due.due("the later one", x.restore(0), 7);
        x.undo();
        Due.due("undone", x.count(4), 0);
        Due.due("nothing was saved in 1", x.restore(1), NOT_POSSIBLE);
    }

    private static void undoBringsAllBack() {
        Due.about("Promise 18",
            "Undoes the latest change: everything except the pad, the slots and the history is as it was "
            + "before it.");
        BeamTurnstiles x = Whole.busy();
        String state = Whole.state(x);
        x.wipe();
        Due.readText(x, "0ioi;.99;1oioi;2ioio;2ioio;3oo;4bb;5oi");
        x.clear(5);
        x.set(0, 7);
        x.set(1, 7);
        x.set(2, 7);
        x.correct(999);
        for (int k = 5; k >= 0; k--) {
            Due.due("undo", x.undo(), k);
        }
        Due.same("the state", Whole.state(x), state);
        Due.same("what later tails are told by", Whole.tailsThen(x), Whole.tailsThen(Whole.busy()));
    }

    private static void saveAtItsBounds() {
        Due.about("Promise 19", "Returns how many people are inside; BAD_VALUE if there is no such slot.");
        BeamTurnstiles x = Due.after("0oioi");
        for (int slot : new int[] {-1, 2, 3, MIN, MAX}) {
            Due.due("save(" + slot + ")", x.save(slot), BAD_VALUE);
        }
        Due.due("nothing saved in 0", x.restore(0), NOT_POSSIBLE);
        Due.due("nothing saved in 1", x.restore(1), NOT_POSSIBLE);
        Due.due("save(0)", x.save(0), 1);
        x.correct(999);
        Due.due("save(1)", x.save(1), 999);
        Due.due("restore(0)", x.restore(0), 1);
        Due.due("restore(1)", x.restore(1), 999);
    }

    private static void saveOverwrites() {
        Due.about("Promise 19", "in a slot, and overwrites what was saved there.");
        BeamTurnstiles x = new BeamTurnstiles();
        for (int people = 0; people < 4; people++) {
            x.correct(people);
            Due.due("save(0)", x.save(0), people);
            x.correct(people + 100);
            Due.due("save(1)", x.save(1), people + 100);
            Due.due("restore(0)", x.restore(0), people);
            Due.due("restore(1)", x.restore(1), people + 100);
        }
    }

    private static void saveTakesAllButThePad() {
        Due.about("Promise 19", "Saves everything except the pad, the history and the slots");
        BeamTurnstiles x = Whole.busy();
        String state = Whole.state(x);
        int people = x.count(4);
        Due.due("save", x.save(1), people);
        Due.same("saving changes nothing", Whole.state(x), state);
        x.wipe();
        Due.readText(x, "0ioi;.99;1oioi;2ioio;2ioio;3oo;4bb;5oi");
        x.set(0, 7);
        x.set(1, 7);
        x.set(2, 7);
        x.correct(999);
        Due.due("restore", x.restore(1), people);
        Due.same("the state", Whole.state(x), state);
        Due.same("what later tails are told by", Whole.tailsThen(x), Whole.tailsThen(Whole.busy()));
    }

    private static void restoreErrors() {
        Due.about("Promise 20", "BAD_VALUE if there is no such slot; NOT_POSSIBLE if nothing was saved in it.");
        BeamTurnstiles x = Due.after("0oioi");
        for (int slot : new int[] {-1, 2, 3, MIN, MAX}) {
            Due.due("restore(" + slot + ")", x.restore(slot), BAD_VALUE);
        }
        Due.due("restore(0)", x.restore(0), NOT_POSSIBLE);
        Due.due("restore(1)", x.restore(1), NOT_POSSIBLE);
        x.save(1);
        Due.due("restore(0), saved in 1", x.restore(0), NOT_POSSIBLE);
        Due.due("restore(1)", x.restore(1), 1);
        BeamTurnstiles y = new BeamTurnstiles();
        y.save(0);
        Due.due("restore(1), saved in 0", y.restore(1), NOT_POSSIBLE);
        Due.due("restore(0)", y.restore(0), 0);
        Due.due("changes", y.count(17), 1);
    }

    private static void restoreIsKept() {
        Due.about("Promise 20", "Restores what was saved last in a slot, which keeps it.");
        BeamTurnstiles x = Due.after("2oioioioi;0oio;.5");
        x.save(0);
        String state = Whole.state(x);
        for (int k = 0; k < 3; k++) {
            Due.readText(x, "0i;1oioi;.30;2b");
            Due.due("people", x.count(4), 4);
            Due.due("restore", x.restore(0), 2);
            Due.same("the state", Whole.state(x), state);
        }
        x.restore(0);
        Due.due("restored twice in a row", x.restore(0), 2);
        Due.same("the state", Whole.state(x), state);
    }

    private static void restoreIsAChange() {
        Due.about("Promise 20", "which keeps it. This is a change.");
        BeamTurnstiles x = new BeamTurnstiles();
        x.save(1);
        Due.readText(x, "0oioi;.9;1o");
        String state = Whole.state(x);
        Due.due("restore", x.restore(1), 0);
        Due.due("changes", x.count(17), 2);
        Due.due("undo", x.undo(), 1);
        Due.same("the state", Whole.state(x), state);
    }

    private static void restoreLeavesPadAndHistory() {
        Due.about("Promise 19", "Saves everything except the pad, the history and the slots");
        BeamTurnstiles x = new BeamTurnstiles();
        Due.putText(x, "1o");
        x.save(0);
        x.correct(3);
        x.save(1);
        x.wipe();
        Due.putText(x, "0oioi");
        Due.due("restore", x.restore(0), 0);
        Due.due("the pad is today's", x.count(16), 5);
        Due.due("so is the history", x.count(17), 2);
        Due.due("so is the other slot", x.restore(1), 3);
        Due.due("read", x.read(), 1);
        Due.due("people", x.count(4), 4);
        Due.due("gate 1", x.gate(1, 1), NONE);
    }
}
