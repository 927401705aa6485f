/** Promises 12 to 14: ifRead, eventsTo, untilBlocked. */
final class WhatIfTest {
    private static final int NO_SUCH = -1, BAD_VALUE = -2, BAD_TEXT = -3, NOT_POSSIBLE = -5, NONE = -6;

    private WhatIfTest() {
    }

    public static void main(String[] args) {
        readingAhead();
        readingAheadWrongly();
        readingAheadAndThen();
        waysToGo();
        waysToGoAfterTurns();
        wrongWays();
        blockedNext();
        Due.end("WhatIfTest");
    }

    private static void foreseen(BeamTurnstiles x, int... due) {
        for (int what = 0; what < due.length; what++) {
            Due.due("ifRead " + what, x.ifRead(what), due[what]);
        }
    }

    private static void readingAhead() {
        BeamTurnstiles x = new BeamTurnstiles();
        x.set(2, 2);
        Due.readText(x, "0oioi;0oioi;0oioi;1ioio;2oo;3bb;4o");
        Due.putText(x, "0oioi;1oioi;2ioio;4o;5oo;5oo;3bb;.20;3b");
        foreseen(x, 2, 1, 3, 1, 3, 2);
        foreseen(x, 2, 1, 3, 1, 3, 2);
        Due.due("nothing came of it: people", x.count(4), 2);
        Due.due("alarms", x.count(6), 1);
        Due.due("ticks", x.count(3), 0);
        Due.due("in", x.count(8), 3);
        Due.due("look", x.gate(4, 0), 1);
        Due.due("pad", x.count(16), 39);
        Due.due("history", x.count(17), 2);
        Due.due("undo", x.undo(), 1);
        foreseen(x, 2, 1, 2, 1, 1, 0);
    }

    private static void readingAheadWrongly() {
        BeamTurnstiles x = new BeamTurnstiles();
        Due.due("empty", x.ifRead(0), BAD_TEXT);
        Due.due("empty, no what", x.ifRead(6), BAD_TEXT);
        Due.putText(x, "0oioi;");
        Due.due("unfinished", x.ifRead(5), BAD_TEXT);
        Due.due("unfinished, no what", x.ifRead(-1), BAD_TEXT);
        x.wipe();
        Due.putText(x, "0oioi");
        int[] wrong = {-1, 6, Integer.MIN_VALUE, Integer.MAX_VALUE};
        for (int what : wrong) {
            Due.due("no what", x.ifRead(what), BAD_VALUE);
        }
        foreseen(x, 1, 0, 0, 0, 1, 0);
    }

    private static void readingAheadAndThen() {
        BeamTurnstiles x = new BeamTurnstiles();
        Due.putText(x, "0oioi;.9;1o");
        foreseen(x, 1, 0, 0, 0, 1, 0);
        Due.due("read", x.read(), 1);
        Due.due("people", x.count(4), 1);
        Due.due("once only", x.gate(0, 5), 1);
        Due.due("look", x.gate(1, 0), 1);
        Due.due("pad is empty", x.ifRead(4), BAD_TEXT);
    }

    private static void waysToGo() {
        String[] texts = {"0o", "0oi", "0oio", "0i", "0io", "0ioi"};
        int[][] due = {{3, NONE, 1}, {2, NONE, 2}, {1, NONE, 3}, {NONE, 3, 1}, {NONE, 2, 2}, {NONE, 1, 3}};
        for (int k = 0; k < texts.length; k++) {
            BeamTurnstiles x = Due.after(texts[k]);
            for (int way = 0; way < 3; way++) {
                Due.due(texts[k] + " to " + way, x.eventsTo(0, way), due[k][way]);
            }
        }
    }

    private static void waysToGoAfterTurns() {
        BeamTurnstiles x = Due.after("1oiooio;1ioiioi;1oio;1o");
        Due.due("in", x.eventsTo(1, 0), 2);
        Due.due("out", x.eventsTo(1, 1), NONE);
        Due.due("back", x.eventsTo(1, 2), 2);
    }

    private static void wrongWays() {
        BeamTurnstiles x = Due.after("5o;4b;3ob;2oioi;1bb");
        int[] noGates = {-1, 6, Integer.MIN_VALUE, Integer.MAX_VALUE};
        for (int gate : noGates) {
            Due.due("no gate", x.eventsTo(gate, 0), NO_SUCH);
            Due.due("no gate, no way", x.eventsTo(gate, 3), NO_SUCH);
        }
        int[] noWays = {-1, 3, Integer.MIN_VALUE, Integer.MAX_VALUE};
        for (int way : noWays) {
            Due.due("no way", x.eventsTo(5, way), BAD_VALUE);
            Due.due("no way, nothing under way", x.eventsTo(0, way), BAD_VALUE);
        }
        for (int gate = 0; gate < 5; gate++) {
            for (int way = 0; way < 3; way++) {
                Due.due("gate " + gate + " not possible", x.eventsTo(gate, way), NOT_POSSIBLE);
            }
        }
        Due.due("5 in", x.eventsTo(5, 0), 3);
    }

    private static void blockedNext() {
        BeamTurnstiles x = new BeamTurnstiles();
        Due.due("nothing under way", x.untilBlocked(), NONE);
        x.event(3, 2);
        Due.due("30", x.untilBlocked(), 30);
        x.pass(10);
        x.event(1, 0);
        Due.due("the earlier one", x.untilBlocked(), 20);
        x.pass(19);
        Due.due("1", x.untilBlocked(), 1);
        x.pass(1);
        Due.due("the one that is blocked doesn't count", x.untilBlocked(), 10);
        x.set(0, 200);
        Due.due("by a longer SLOW", x.untilBlocked(), 170);
        x.set(0, 20);
        Due.due("all are blocked", x.untilBlocked(), NONE);
        x.event(5, 0);
        Due.due("one more", x.untilBlocked(), 20);
        x.event(5, 0);
        Due.due("it is free again", x.untilBlocked(), NONE);
        x.clear(3);
        x.set(0, 21);
        Due.due("the other", x.untilBlocked(), 1);
        Due.due("history", x.count(17), 6);
        for (int gate = 0; gate < 6; gate++) {
            Due.due("each gate", Due.after(gate + "b;.11").untilBlocked(), 19);
        }
    }
}
