/** Promises 12 to 14: ifRead, eventsTo, untilBlocked. */
final class WhatIfTest {
    private static final int NO_SUCH = -1, BAD_VALUE = -2, BAD_TEXT = -3, NOT_POSSIBLE = -5, NONE = -6;

    private WhatIfTest() {
    }

    public static void main(String[] args) {
        readingAhead();
        readingAheadWrongly();
        readingAheadAndThen();
        waysToGo();
        waysToGoAfterTurns();
        waysTried();
        wrongWays();
        blockedNext();
        Due.end("WhatIfTest");
    }

    private static void foreseen(BeamTurnstiles x, int... due) {
        for (int what = 0; what < due.length; what++) {
            Due.due("ifRead " + what, x.ifRead(what), due[what]);
        }
    }

    private static void readingAhead() {
        Due.about("Promise 12", "Tells what the events of the pad would bring.");
        BeamTurnstiles x = new BeamTurnstiles();
        x.set(2, 2);
        Due.readText(x, "0oioi;0oioi;0oioi;1ioio;2oo;3bb;4o");
        Due.putText(x, "0oioi;1oioi;2ioio;4o;5oo;5oo;3bb;.20;3b");
        foreseen(x, 2, 1, 3, 1, 3, 2);
        foreseen(x, 2, 1, 3, 1, 3, 2);
        Due.due("nothing came of it: people", x.count(4), 2);
        Due.due("alarms", x.count(6), 1);
        Due.due("ticks", x.count(3), 0);
        Due.due("in", x.count(8), 3);
        Due.due("look", x.gate(4, 0), 1);
        Due.due("pad", x.count(16), 39);
        Due.due("history", x.count(17), 2);
        Due.due("undo", x.undo(), 1);
        foreseen(x, 2, 1, 2, 1, 1, 0);
    }

    private static void readingAheadWrongly() {
        Due.about("Promise 12", "BAD_TEXT if the pad has a fault; BAD_VALUE if what is out of range.");
        BeamTurnstiles x = new BeamTurnstiles();
        Due.due("empty", x.ifRead(0), BAD_TEXT);
        Due.due("empty, no what", x.ifRead(6), BAD_TEXT);
        Due.putText(x, "0oioi;");
        Due.due("unfinished", x.ifRead(5), BAD_TEXT);
        Due.due("unfinished, no what", x.ifRead(-1), BAD_TEXT);
        x.wipe();
        Due.putText(x, "0oioi");
        int[] wrong = {-1, 6, Integer.MIN_VALUE, Integer.MAX_VALUE};
        for (int what : wrong) {
            Due.due("no what", x.ifRead(what), BAD_VALUE);
        }
        foreseen(x, 1, 0, 0, 0, 1, 0);
    }

    private static void readingAheadAndThen() {
        Due.about("Promise 12", "Tells what the events of the pad would bring.");
        BeamTurnstiles x = new BeamTurnstiles();
        Due.putText(x, "0oioi;.9;1o");
        foreseen(x, 1, 0, 0, 0, 1, 0);
        Due.due("read", x.read(), 1);
        Due.due("people", x.count(4), 1);
        Due.due("once only", x.gate(0, 5), 1);
        Due.due("look", x.gate(1, 0), 1);
        Due.due("pad is empty", x.ifRead(4), BAD_TEXT);
    }

    private static void waysToGo() {
        Due.about("Promise 13",
            "Tells how many events of one beam each it takes at least until the passage of a gate that is "
            + "under way would end in some way.");
        String[] texts = {"0o", "0oi", "0oio", "0i", "0io", "0ioi"};
        int[][] due = {{3, NONE, 1}, {2, NONE, 2}, {1, NONE, 3}, {NONE, 3, 1}, {NONE, 2, 2}, {NONE, 1, 3}};
        for (int k = 0; k < texts.length; k++) {
            BeamTurnstiles x = Due.after(texts[k]);
            for (int way = 0; way < 3; way++) {
                Due.due(texts[k] + " to " + way, x.eventsTo(0, way), due[k][way]);
            }
        }
    }

    private static void waysToGoAfterTurns() {
        Due.about("Promise 13",
            "Tells how many events of one beam each it takes at least until the passage of a gate that is "
            + "under way would end in some way.");
        BeamTurnstiles x = Due.after("1oiooio;1ioiioi;1oio;1o");
        Due.due("in", x.eventsTo(1, 0), 2);
        Due.due("out", x.eventsTo(1, 1), NONE);
        Due.due("back", x.eventsTo(1, 2), 2);
    }

    /** From wherever up to 5 events lead: all rows of events are tried, the short ones first. */
    private static void waysTried() {
        Due.about("Promise 13", "way: 0 in, 1 out, 2 turned back Returns how many");
        for (int length = 1; length <= 5; length++) {
            for (int order = 0; order < 1 << length; order++) {
                String letters = letters(order, length);
                BeamTurnstiles x = new BeamTurnstiles();
                Due.events(x, 4, letters);
                for (int way = 0; way < 3 && x.gate(4, 0) != 0; way++) {
                    Due.due(letters + " to " + way, x.eventsTo(4, way), fewest(letters, way));
                }
            }
        }
    }

    private static String letters(int order, int length) {
        StringBuilder letters = new StringBuilder();
        for (int k = 0; k < length; k++) {
            letters.append("oi".charAt(order >> k & 1));
        }
        return letters.toString();
    }

    private static int fewest(String letters, int way) {
        for (int length = 1; length <= 6; length++) {
            for (int order = 0; order < 1 << length; order++) {
                if (endsSo(letters, letters(order, length), way)) {
                    return length;
                }
            }
        }
        return NONE;
    }

    /** Whether the passage that is under way ends just by the last event, and in this way. */
    private static boolean endsSo(String letters, String more, int way) {
        BeamTurnstiles x = new BeamTurnstiles();
        Due.events(x, 4, letters);
        int ended = ended(x);
        Due.events(x, 4, more.substring(0, more.length() - 1));
        boolean underWayYet = ended(x) == ended;
        int endedSo = x.gate(4, 5 + way);
        Due.events(x, 4, more.substring(more.length() - 1));
        return underWayYet && x.gate(4, 5 + way) > endedSo;
    }

    private static int ended(BeamTurnstiles x) {
        return x.count(8) + x.count(9) + x.count(10);
    }

    private static void wrongWays() {
        Due.about("Promise 13",
            "NO_SUCH if there is no such gate; BAD_VALUE if way is out of range; NOT_POSSIBLE if no passage is "
            + "under way, or it is unsure");
        BeamTurnstiles x = Due.after("5o;4b;3ob;2oioi;1bb");
        int[] noGates = {-1, 6, Integer.MIN_VALUE, Integer.MAX_VALUE};
        for (int gate : noGates) {
            Due.due("no gate", x.eventsTo(gate, 0), NO_SUCH);
            Due.due("no gate, no way", x.eventsTo(gate, 3), NO_SUCH);
        }
        int[] noWays = {-1, 3, Integer.MIN_VALUE, Integer.MAX_VALUE};
        for (int way : noWays) {
            Due.due("no way", x.eventsTo(5, way), BAD_VALUE);
            Due.due("no way, nothing under way", x.eventsTo(0, way), BAD_VALUE);
        }
        for (int gate = 0; gate < 5; gate++) {
            for (int way = 0; way < 3; way++) {
                Due.due("gate " + gate + " not possible", x.eventsTo(gate, way), NOT_POSSIBLE);
            }
        }
        Due.due("5 in", x.eventsTo(5, 0), 3);
    }

    private static void blockedNext() {
        Due.about("Promise 14",
            "Tells behind how many ticks the next gate is blocked that is not blocked now, if no event happens.");
        BeamTurnstiles x = new BeamTurnstiles();
        Due.due("nothing under way", x.untilBlocked(), NONE);
        x.event(3, 2);
        Due.due("30", x.untilBlocked(), 30);
        x.pass(10);
        x.event(1, 0);
        Due.due("the earlier one", x.untilBlocked(), 20);
        x.pass(19);
        Due.due("1", x.untilBlocked(), 1);
        x.pass(1);
        Due.due("the one that is blocked doesn't count", x.untilBlocked(), 10);
        x.set(0, 200);
        Due.due("by a longer SLOW", x.untilBlocked(), 170);
        x.set(0, 20);
        Due.due("all are blocked", x.untilBlocked(), NONE);
        x.event(5, 0);
        Due.due("one more", x.untilBlocked(), 20);
        x.event(5, 0);
        Due.due("it is free again", x.untilBlocked(), NONE);
        x.clear(3);
        x.set(0, 21);
        Due.due("the other", x.untilBlocked(), 1);
        Due.due("history", x.count(17), 6);
        for (int gate = 0; gate < 6; gate++) {
            Due.due("each gate", Due.after(gate + "b;.11").untilBlocked(), 19);
        }
    }
}
