/** Promises 18 to 20: undo, save, restore. */
final class SavingTest {
    private static final int BAD_VALUE = -2, NOT_POSSIBLE = -5, NONE = -6;

    private SavingTest() {
    }

    public static void main(String[] args) {
        undoingEachChange();
        undoingEverything();
        sixStates();
        errorsAndTellingRecordNothing();
        padStays();
        saving();
        savedIsEverything();
        restoring();
        restoringTellsPeople();
        bothSlots();
        wrongSlots();
        slotsAndHistory();
        Due.end("SavingTest");
    }

    private static void change(BeamTurnstiles x, int which) {
        switch (which) {
            case 0 -> x.set(1, 7);
            case 1 -> x.event(0, 1);
            case 2 -> x.pass(35);
            case 3 -> Due.readText(x, "0b;.9;1oioi;2ioio;2ioio;3oo;4bb");
            case 4 -> x.correct(77);
            case 5 -> x.clear(0);
            default -> x.restore(1);
        }
    }

    private static void undoingEachChange() {
        Due.about("Promise 18",
            "Undoes the latest change: everything except the pad, the slots and the history is as it was "
            + "before it.");
        for (int which = 0; which < 7; which++) {
            BeamTurnstiles x = Due.after("0oi;1oioi;.8");
            Due.due("save", x.save(0), 1);
            Due.due("save", x.save(1), 1);
            x.pass(1);
            String before = Whole.state(x);
            int could = x.count(17);
            change(x, which);
            Due.same("change " + which + " changes", Whole.state(x).equals(before) ? "same" : "other", "other");
            Due.due("recorded by " + which, x.count(17), could + 1);
            Due.due("undo " + which, x.undo(), could);
            Due.same("undone " + which, Whole.state(x), before);
        }
    }

    private static void undoingEverything() {
        Due.about("Promise 18",
            "Undoes the latest change: everything except the pad, the slots and the history is as it was "
            + "before it.");
        for (int undone = 0; undone <= 6; undone++) {
            BeamTurnstiles x = changed(6);
            for (int k = 1; k <= undone; k++) {
                Due.due("undo", x.undo(), 6 - k);
            }
            Due.same("state, " + undone + " undone", Whole.state(x), Whole.state(changed(6 - undone)));
        }
        BeamTurnstiles y = changed(6);
        for (int k = 5; k >= 0; k--) {
            Due.due("undo", y.undo(), k);
        }
        Due.due("no more", y.undo(), NOT_POSSIBLE);
        Due.same("nothing changed by that", Whole.state(y), Whole.state(changed(0)));
    }

    private static BeamTurnstiles changed(int changes) {
        BeamTurnstiles x = new BeamTurnstiles();
        x.set(2, 1);
        for (int which = 0; which < changes; which++) {
            change(x, which);
        }
        return x;
    }

    private static void sixStates() {
        Due.about("Promise 18",
            "A history of at most 6 states is kept: each method that is a change, and returns no error, "
            + "records the state before it (also if nothing is different then); when one more is recorded, the "
            + "oldest one is dropped.");
        BeamTurnstiles x = new BeamTurnstiles();
        for (int k = 1; k <= 20; k++) {
            x.pass(1);
            Due.due("kept", x.count(17), Math.min(k, 6));
        }
        Due.due("undo", x.undo(), 5);
        Due.due("undo", x.undo(), 4);
        Due.due("ticks", x.count(3), 18);
        x.pass(100);
        Due.due("again", x.count(17), 5);
        int[] ticks = {18, 17, 16, 15, 14};
        for (int k = 0; k < ticks.length; k++) {
            Due.due("undo", x.undo(), 4 - k);
            Due.due("ticks", x.count(3), ticks[k]);
        }
        Due.due("no more", x.undo(), NOT_POSSIBLE);
        Due.due("ticks", x.count(3), 14);
    }

    private static void errorsAndTellingRecordNothing() {
        Due.about("Promise 18",
            "each method that is a change, and returns no error, records the state before it (also if nothing "
            + "is different then)");
        BeamTurnstiles x = new BeamTurnstiles();
        x.pass(1);
        x.set(0, 0);
        x.event(6, 0);
        x.event(0, 3);
        x.pass(0);
        x.read();
        x.correct(-1);
        x.clear(0);
        x.clear(6);
        x.restore(0);
        x.restore(2);
        x.save(0);
        Due.putText(x, "0o");
        x.ifRead(0);
        x.wipe();
        x.mean(0);
        x.untilBlocked();
        Due.due("one", x.count(17), 1);
        x.set(0, 30);
        Due.due("a change to the same", x.count(17), 2);
        Due.due("undo", x.undo(), 1);
    }

    private static void padStays() {
        Due.about("Promise 18", "everything except the pad, the slots and the history is as it was before it.");
        BeamTurnstiles x = new BeamTurnstiles();
        x.pass(5);
        x.save(0);
        Due.putText(x, "0oioi");
        x.undo();
        Due.due("pad behind undo", x.count(16), 5);
        x.restore(0);
        Due.due("pad behind restore", x.count(16), 5);
        Due.due("read", x.read(), 1);
        x.undo();
        Due.due("an undone read gives no text back", x.count(16), 0);
        Due.due("people", x.count(4), 0);
    }

    private static void saving() {
        Due.about("Promise 19",
            "Saves everything except the pad, the history and the slots in a slot, and overwrites what was "
            + "saved there.");
        BeamTurnstiles x = new BeamTurnstiles();
        Due.due("save 0", x.save(0), 0);
        x.correct(12);
        Due.due("save 1", x.save(1), 12);
        Due.due("not a change", x.count(17), 1);
        x.correct(20);
        Due.due("restore 0", x.restore(0), 0);
        Due.due("people", x.count(4), 0);
        Due.due("restore 1", x.restore(1), 12);
        x.correct(30);
        Due.due("overwrite", x.save(1), 30);
        x.correct(31);
        Due.due("restore 1", x.restore(1), 30);
        Due.due("restore 0 again", x.restore(0), 0);
        Due.due("most", x.count(5), 0);
    }

    private static void savedIsEverything() {
        Due.about("Promise 19", "Saves everything except the pad, the history and the slots in a slot");
        BeamTurnstiles x = Due.after("0o;.40;1oioi;1ioio;1ioio;2oo;3bb;4oi;5b;0ioi;.3");
        x.set(0, 11);
        x.set(1, 12);
        x.set(2, 13);
        String saved = Whole.state(x);
        x.save(1);
        Due.readText(x, "0oioi;.40;1oioi;1ioio;1ioio;2oo;3bb;4oi;5b");
        x.set(0, 1);
        x.set(1, 1);
        x.set(2, 1);
        x.restore(1);
        Due.same("restored", Whole.state(x), saved);
        // What a tail is measured by comes back, too.
        BeamTurnstiles y = Due.after("0oioi");
        y.save(0);
        Due.readText(y, "0ioio");
        y.restore(0);
        Due.readText(y, "0oioi");
        Due.due("tail behind restore", y.gate(0, 10), 1);
        Due.readText(y, "0ioio");
        y.undo();
        Due.readText(y, "0oioi");
        Due.due("tail behind undo", y.gate(0, 10), 2);
    }

    private static void restoring() {
        Due.about("Promise 20", "Restores what was saved last in a slot, which keeps it.");
        BeamTurnstiles x = Due.after("0oio");
        x.save(0);
        x.event(0, 1);
        Due.due("one in", x.count(4), 1);
        Due.due("restore", x.restore(0), 0);
        Due.due("on its way again", x.gate(0, 2), 7);
        x.event(0, 1);
        x.event(1, 0);
        Due.due("the slot keeps it", x.restore(0), 0);
        Due.due("on its way again", x.gate(0, 2), 7);
        Due.due("free", x.gate(1, 1), NONE);
        Due.due("undo", x.undo(), 5);
        Due.due("in again", x.count(4), 1);
        Due.due("and the other", x.gate(1, 0), 1);
    }

    private static void restoringTellsPeople() {
        Due.about("Promise 20", "Returns how many people are inside then");
        BeamTurnstiles x = new BeamTurnstiles();
        for (int people : new int[] {0, 1, 20, 999}) {
            x.correct(people);
            x.save(1);
            x.correct(500);
            Due.due("restore", x.restore(1), people);
            Due.due("people", x.count(4), people);
        }
        Due.readText(x, "0oioi");
        x.save(1);
        x.correct(500);
        Due.due("restore", x.restore(1), 1000);
    }

    private static void bothSlots() {
        for (String head : new String[] {"Promise 19", "Promise 20"}) {
            Due.about(head, "slot: 0 or 1");
            BeamTurnstiles x = new BeamTurnstiles();
            for (int slot = 0; slot < 2; slot++) {
                x.correct(10 + slot);
                Due.due("save(" + slot + ")", x.save(slot), 10 + slot);
            }
            for (int slot = 0; slot < 2; slot++) {
                Due.due("restore(" + slot + ")", x.restore(slot), 10 + slot);
            }
            for (int slot : new int[] {-1, 2}) {
                Due.due("save(" + slot + ")", x.save(slot), BAD_VALUE);
                Due.due("restore(" + slot + ")", x.restore(slot), BAD_VALUE);
            }
        }
    }

    private static void wrongSlots() {
        Due.about("Promise 20", "BAD_VALUE if there is no such slot; NOT_POSSIBLE if nothing was saved in it.");
        BeamTurnstiles x = new BeamTurnstiles();
        int[] wrong = {-1, 2, Integer.MIN_VALUE, Integer.MAX_VALUE};
        for (int slot : wrong) {
            Due.due("save " + slot, x.save(slot), BAD_VALUE);
            Due.due("restore " + slot, x.restore(slot), BAD_VALUE);
        }
        x.save(1);
        Due.due("nothing in 0", x.restore(0), NOT_POSSIBLE);
        Due.due("nobody in 1", x.restore(1), 0);
        Due.due("one change", x.count(17), 1);
    }

    private static void slotsAndHistory() {
        Due.about("Promise 18", "everything except the pad, the slots and the history is as it was before it.");
        BeamTurnstiles x = new BeamTurnstiles();
        x.correct(5);
        x.save(0);
        x.undo();
        Due.due("undo leaves the slot", x.restore(0), 5);
        x.correct(6);
        x.restore(0);
        Due.due("restore leaves the history", x.count(17), 3);
        x.undo();
        Due.due("6", x.count(4), 6);
        x.undo();
        Due.due("5", x.count(4), 5);
        x.undo();
        Due.due("0", x.count(4), 0);
        Due.due("no more", x.undo(), NOT_POSSIBLE);
    }
}
