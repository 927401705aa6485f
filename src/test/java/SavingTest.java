/** Promises 18 to 20: undo, save, restore. */
final class SavingTest {
    private static final int BAD_VALUE = -2, NOT_POSSIBLE = -5, NONE = -6;

    private SavingTest() {
    }

    public static void main(String[] args) {
        undoingEachChange();
        undoingEverything();
        sixStates();
        errorsAndTellingRecordNothing();
        padStays();
        saving();
        savedIsEverything();
        restoring();
        wrongSlots();
        slotsAndHistory();
        Due.end("SavingTest");
    }

    private static void change(BeamTurnstiles x, int which) {
        switch (which) {
            case 0 -> x.set(1, 7);
            case 1 -> x.event(0, 1);
            case 2 -> x.pass(35);
            case 3 -> Due.readText(x, "0b;.9;1oioi;2ioio;2ioio;3oo;4bb");
            case 4 -> x.correct(77);
            case 5 -> x.clear(0);
            default -> x.restore(1);
        }
    }

    private static void undoingEachChange() {
        for (int which = 0; which < 7; which++) {
            BeamTurnstiles x = Due.after("0oi;1oioi;.8");
            Due.due("save", x.save(0), 1);
            Due.due("save", x.save(1), 1);
            x.pass(1);
            String before = Whole.state(x);
            int could = x.count(17);
            change(x, which);
            Due.same("change " + which + " changes", Whole.state(x).equals(before) ? "same" : "other", "other");
            Due.due("recorded by " + which, x.count(17), could + 1);
            Due.due("undo " + which, x.undo(), could);
            Due.same("undone " + which, Whole.state(x), before);
        }
    }

    private static void undoingEverything() {
        BeamTurnstiles x = new BeamTurnstiles();
        x.set(2, 1);
        String[] states = new String[6];
        for (int which = 0; which < 6; which++) {
            states[which] = Whole.state(x);
            change(x, which);
        }
        for (int which = 5; which >= 0; which--) {
            Due.due("undo", x.undo(), which);
            Due.same("state " + which, Whole.state(x), states[which]);
        }
        Due.due("no more", x.undo(), NOT_POSSIBLE);
        Due.same("nothing changed by that", Whole.state(x), states[0]);
    }

    private static void sixStates() {
        BeamTurnstiles x = new BeamTurnstiles();
        for (int k = 1; k <= 20; k++) {
            x.pass(1);
            Due.due("kept", x.count(17), Math.min(k, 6));
        }
        Due.due("undo", x.undo(), 5);
        Due.due("undo", x.undo(), 4);
        Due.due("ticks", x.count(3), 18);
        x.pass(100);
        Due.due("again", x.count(17), 5);
        int[] ticks = {18, 17, 16, 15, 14};
        for (int k = 0; k < ticks.length; k++) {
            Due.due("undo", x.undo(), 4 - k);
            Due.due("ticks", x.count(3), ticks[k]);
        }
        Due.due("no more", x.undo(), NOT_POSSIBLE);
        Due.due("ticks", x.count(3), 14);
    }

    private static void errorsAndTellingRecordNothing() {
        BeamTurnstiles x = new BeamTurnstiles();
        x.pass(1);
        x.set(0, 0);
        x.event(6, 0);
        x.event(0, 3);
        x.pass(0);
        x.read();
        x.correct(-1);
        x.clear(0);
        x.clear(6);
        x.restore(0);
        x.restore(2);
        x.save(0);
        Due.putText(x, "0o");
        x.ifRead(0);
        x.wipe();
        x.mean(0);
        x.untilBlocked();
        Due.due("one", x.count(17), 1);
        x.set(0, 30);
        Due.due("a change to the same", x.count(17), 2);
        Due.due("undo", x.undo(), 1);
    }

    private static void padStays() {
        BeamTurnstiles x = new BeamTurnstiles();
        x.pass(5);
        x.save(0);
        Due.putText(x, "0oioi");
        x.undo();
        Due.due("pad behind undo", x.count(16), 5);
        x.restore(0);
        Due.due("pad behind restore", x.count(16), 5);
        Due.due("read", x.read(), 1);
        x.undo();
        Due.due("an undone read gives no text back", x.count(16), 0);
        Due.due("people", x.count(4), 0);
    }

    private static void saving() {
        BeamTurnstiles x = new BeamTurnstiles();
        Due.due("save 0", x.save(0), 0);
        x.correct(12);
        Due.due("save 1", x.save(1), 12);
        Due.due("not a change", x.count(17), 1);
        x.correct(20);
        Due.due("restore 0", x.restore(0), 0);
        Due.due("people", x.count(4), 0);
        Due.due("restore 1", x.restore(1), 12);
        x.correct(30);
        Due.due("overwrite", x.save(1), 30);
        x.correct(31);
        Due.due("restore 1", x.restore(1), 30);
        Due.due("restore 0 again", x.restore(0), 0);
        Due.due("most", x.count(5), 0);
    }

    private static void savedIsEverything() {
        BeamTurnstiles x = Due.after("0o;.40;1oioi;1ioio;1ioio;2oo;3bb;4oi;5b;0ioi;.3");
        x.set(0, 11);
        x.set(1, 12);
        x.set(2, 13);
        String saved = Whole.state(x);
        x.save(1);
        Due.readText(x, "0oioi;.40;1oioi;1ioio;1ioio;2oo;3bb;4oi;5b");
        x.set(0, 1);
        x.set(1, 1);
        x.set(2, 1);
        x.restore(1);
        Due.same("restored", Whole.state(x), saved);
        // What a tail is measured by comes back, too.
        BeamTurnstiles y = Due.after("0oioi");
        y.save(0);
        Due.readText(y, "0ioio");
        y.restore(0);
        Due.readText(y, "0oioi");
        Due.due("tail behind restore", y.gate(0, 10), 1);
        Due.readText(y, "0ioio");
        y.undo();
        Due.readText(y, "0oioi");
        Due.due("tail behind undo", y.gate(0, 10), 2);
    }

    private static void restoring() {
        BeamTurnstiles x = Due.after("0oio");
        x.save(0);
        x.event(0, 1);
        Due.due("one in", x.count(4), 1);
        Due.due("restore", x.restore(0), 0);
        Due.due("on its way again", x.gate(0, 2), 7);
        x.event(0, 1);
        x.event(1, 0);
        Due.due("the slot keeps it", x.restore(0), 0);
        Due.due("on its way again", x.gate(0, 2), 7);
        Due.due("free", x.gate(1, 1), NONE);
        Due.due("undo", x.undo(), 5);
        Due.due("in again", x.count(4), 1);
        Due.due("and the other", x.gate(1, 0), 1);
    }

    private static void wrongSlots() {
        BeamTurnstiles x = new BeamTurnstiles();
        int[] wrong = {-1, 2, Integer.MIN_VALUE, Integer.MAX_VALUE};
        for (int slot : wrong) {
            Due.due("save " + slot, x.save(slot), BAD_VALUE);
            Due.due("restore " + slot, x.restore(slot), BAD_VALUE);
        }
        x.save(1);
        Due.due("nothing in 0", x.restore(0), NOT_POSSIBLE);
        Due.due("nobody in 1", x.restore(1), 0);
        Due.due("one change", x.count(17), 1);
    }

    private static void slotsAndHistory() {
        BeamTurnstiles x = new BeamTurnstiles();
        x.correct(5);
        x.save(0);
        x.undo();
        Due.due("undo leaves the slot", x.restore(0), 5);
        x.correct(6);
        x.restore(0);
        Due.due("restore leaves the history", x.count(17), 3);
        x.undo();
        Due.due("6", x.count(4), 6);
        x.undo();
        Due.due("5", x.count(4), 5);
        x.undo();
        Due.due("0", x.count(4), 0);
        Due.due("no more", x.undo(), NOT_POSSIBLE);
    }
}
