/** The sentences of promises 8 to 14 that name a bound: gate, count, mean, busiest, ifRead, eventsTo, untilBlocked. */
final class TellingBoundsTest {
    private static final int NO_SUCH = -1, BAD_VALUE = -2, BAD_TEXT = -3, NOT_POSSIBLE = -5, NONE = -6;
    private static final int MIN = Integer.MIN_VALUE, MAX = Integer.MAX_VALUE;

    private TellingBoundsTest() {
    }

    public static void main(String[] args) {
        gateErrors();
        gateBeganAndNone();
        gatePlaceAndNone();
        gateSureAndNone();
        gateBlocked();
        gatePassages();
        gateSlowOfAll();
        gateTicksAndLatestEnd();
        countErrors();
        countMostPeople();
        countOfAllGates();
        countMasks();
        countPadAndHistory();
        meanErrors();
        meanNone();
        busiestNone();
        busiestLowest();
        ifReadErrors();
        ifReadNoPassage();
        ifReadPeopleAndAlarms();
        ifReadTheLongestText();
        ifReadChangesNothing();
        eventsToErrors();
        eventsToNotPossible();
        eventsToEachPlace();
        untilBlockedAtItsBounds();
        untilBlockedNext();
        untilBlockedNone();
        untilBlockedAtTheEndOfTicks();
        Due.end("TellingBoundsTest");
    }

    private static void gateErrors() {
        Due.about("Promise 8",
            "Returns the number; NO_SUCH if there is no such gate; BAD_VALUE if what is out of range.");
        BeamTurnstiles x = Due.after("0o;5o");
        for (int gate : new int[] {-1, 6, MIN, MAX}) {
            for (int what : new int[] {-1, 0, 1, 12, 13, MIN, MAX}) {
                Due.due("gate(" + gate + ", " + what + ")", x.gate(gate, what), NO_SUCH);
            }
        }
        for (int gate = 0; gate < 6; gate++) {
            for (int what : new int[] {-1, 13, 14, MIN, MAX}) {
                Due.due("gate(" + gate + ", " + what + ")", x.gate(gate, what), BAD_VALUE);
            }
        }
        Due.due("gate(0, 0)", x.gate(0, 0), 1);
        Due.due("gate(5, 0)", x.gate(5, 0), 1);
        Due.due("gate(5, 12)", x.gate(5, 12), NONE);
    }

    private static void gateBeganAndNone() {
        Due.about("Promise 8", "1 the tick at which the passage that is under way began (NONE)");
        BeamTurnstiles x = new BeamTurnstiles();
        Due.due("none yet", x.gate(3, 1), NONE);
        x.event(3, 0);
        Due.due("0", x.gate(3, 1), 0);
        x.pass(5);
        Due.events(x, 3, "i");
        Due.due("0 yet", x.gate(3, 1), 0);
        Due.events(x, 3, "oi");
        Due.due("ended", x.gate(3, 1), NONE);
        x.event(3, 2);
        Due.due("5", x.gate(3, 1), 5);
        BeamTurnstiles y = Due.atTick(99999);
        y.event(3, 1);
        Due.due("the end of the ticks", y.gate(3, 1), 99999);
    }

    private static void gatePlaceAndNone() {
        Due.about("Promise 8", "2 its place and 4, together (NONE without one, or if it is unsure)");
        String[] letters = {"", "o", "oi", "oio", "oioi", "i", "io", "ioi", "ioio", "b", "ob", "oibo", "oiob", "obb"};
        int[] due = {NONE, 5, 6, 7, NONE, 3, 2, 1, NONE, NONE, NONE, 5, NONE, NONE};
        for (int k = 0; k < letters.length; k++) {
            BeamTurnstiles x = new BeamTurnstiles();
            Due.events(x, 3, letters[k]);
            Due.due("place behind " + letters[k], x.gate(3, 2), due[k]);
        }
    }

    private static void gateSureAndNone() {
        Due.about("Promise 8", "3 whether it is sure (1, otherwise 0; NONE without one)");
        String[] letters = {"", "o", "oio", "oioi", "b", "bb", "ob", "oib", "obb", "bbo"};
        int[] due = {NONE, 1, 1, NONE, 0, NONE, 0, NONE, 0, 1};
        for (int k = 0; k < letters.length; k++) {
            BeamTurnstiles x = new BeamTurnstiles();
            Due.events(x, 3, letters[k]);
            Due.due("sure behind " + letters[k], x.gate(3, 3), due[k]);
        }
    }

    private static void gateBlocked() {
        Due.about("Promise 8", "4 whether the gate is blocked (1 or 0)");
        for (int ticks = 29; ticks <= 31; ticks++) {
            BeamTurnstiles x = Due.after("3o;4b;." + ticks);
            Due.due("sure, " + ticks, x.gate(3, 4), ticks >= 30 ? 1 : 0);
            Due.due("unsure, " + ticks, x.gate(4, 4), ticks >= 30 ? 1 : 0);
            Due.due("nothing under way, " + ticks, x.gate(5, 4), 0);
        }
    }

    private static void gatePassages() {
        Due.about("Promise 8", "5 passages that were in so far, 6 out, 7 turned back, 8 lost");
        BeamTurnstiles x = Due.after("3oioi;3oioi;3ioio;3oo;3oo;3oo;3bb;3bb;3bb;3bb");
        int[] due = {2, 1, 3, 4};
        for (int k = 0; k < due.length; k++) {
            Due.due("gate(3, " + (5 + k) + ")", x.gate(3, 5 + k), due[k]);
            Due.due("gate(2, " + (5 + k) + ")", x.gate(2, 5 + k), 0);
        }
    }

    private static void gateSlowOfAll() {
        Due.about("Promise 8", "9 slow ones, of all these");
        String[] begin = {"o", "i", "o", "b", "oi"};
        String[] end = {"ioi", "oio", "o", "b", ""};
        BeamTurnstiles x = new BeamTurnstiles();
        for (int k = 0; k < begin.length; k++) {
            Due.events(x, 3, begin[k]);
            x.pass(30);
            Due.due("under way, not slow yet", x.gate(3, 9), k);
            Due.events(x, 3, end[k]);
            if (end[k].isEmpty()) {
                x.clear(3);
            }
            Due.due("slow behind " + begin[k] + end[k], x.gate(3, 9), k + 1);
        }
        Due.events(x, 3, "oioi");
        Due.due("one that is not slow", x.gate(3, 9), 5);
    }

    private static void gateTicksAndLatestEnd() {
        Due.about("Promise 8",
            "11 ticks of all passages that were in or out, together, 12 the tick at which the latest one that "
            + "was in or out ended (NONE)");
        BeamTurnstiles x = new BeamTurnstiles();
        for (int gate = 0; gate < 6; gate++) {
            Due.due("at first: ticks", x.gate(gate, 11), 0);
            Due.due("at first: end", x.gate(gate, 12), NONE);
        }
        Due.readText(x, ".7;3o;.2;3o;3b;.4;3b");
        x.event(3, 0);
        x.pass(3);
        x.clear(3);
        Due.due("turned back and lost: ticks", x.gate(3, 11), 0);
        Due.due("turned back and lost: end", x.gate(3, 12), NONE);
        Due.readText(x, "3oio;.5;3i");
        Due.due("in: ticks", x.gate(3, 11), 5);
        Due.due("in: end", x.gate(3, 12), 21);
        Due.readText(x, ".1;3ioi;.6;3o");
        Due.due("out: ticks", x.gate(3, 11), 11);
        Due.due("out: end", x.gate(3, 12), 28);
        Due.readText(x, ".1;3o;.9;3o;3b;.9;3b");
        Due.due("turned back and lost: ticks", x.gate(3, 11), 11);
        Due.due("turned back and lost: end", x.gate(3, 12), 28);
        Due.due("another gate", x.gate(2, 12), NONE);
    }

    private static void countErrors() {
        Due.about("Promise 9", "Returns the number; BAD_VALUE if what is out of range.");
        BeamTurnstiles x = new BeamTurnstiles();
        for (int what : new int[] {-1, 18, 19, MIN, MAX}) {
            Due.due("count(" + what + ")", x.count(what), BAD_VALUE);
        }
        Due.due("count(0)", x.count(0), 30);
        x.event(0, 0);
        Due.due("count(17)", x.count(17), 1);
    }

    private static void countMostPeople() {
        Due.about("Promise 9", "5 the most people that were inside so far (by correct(), too)");
        BeamTurnstiles x = Due.after("0oioioioi;0ioio");
        Due.due("2, not 1", x.count(5), 2);
        x.correct(2);
        Due.due("2 again", x.count(5), 2);
        x.correct(3);
        Due.due("3 by correct()", x.count(5), 3);
        x.correct(0);
        Due.due("3 yet", x.count(5), 3);
        Due.readText(x, "0oioioioioioioioi");
        Due.due("4 by passages", x.count(5), 4);
        x.undo();
        Due.due("undone", x.count(5), 3);
    }

    private static void countOfAllGates() {
        Due.about("Promise 9", "8 to 13 of all gates together what gate() tells by 5 to 10");
        BeamTurnstiles x = new BeamTurnstiles();
        for (int gate = 0; gate < 6; gate++) {
            Due.events(x, gate, "oioioioi");
            Due.events(x, gate, "oo");
            x.event(gate, 1);
            x.pass(30);
            Due.events(x, gate, "oio");
            Due.events(x, gate, "bb");
            int[] each = {2, 1, 1, 1, 1, 1};
            for (int k = 0; k < each.length; k++) {
                Due.due("count(" + (8 + k) + ") as far as gate " + gate, x.count(8 + k), (gate + 1) * each[k]);
            }
        }
    }

    private static void countMasks() {
        Due.about("Promise 9",
            "14 gates that are blocked, as a bit mask, 15 gates with a passage under way, as a bit mask");
        BeamTurnstiles x = new BeamTurnstiles();
        Due.due("none blocked", x.count(14), 0);
        Due.due("none under way", x.count(15), 0);
        for (int gate = 0; gate < 6; gate++) {
            BeamTurnstiles y = new BeamTurnstiles();
            y.event(gate, 0);
            x.event(gate, 1);
            Due.due("under way, " + gate + " alone", y.count(15), 1 << gate);
            Due.due("not blocked", y.count(14), 0);
            y.pass(30);
            Due.due("blocked, " + gate + " alone", y.count(14), 1 << gate);
        }
        Due.due("all under way", x.count(15), 63);
        x.pass(30);
        Due.due("all blocked", x.count(14), 63);
    }

    private static void countPadAndHistory() {
        Due.about("Promise 9", "16 the length of the pad, 17 how many changes can be undone");
        BeamTurnstiles x = new BeamTurnstiles();
        Due.putText(x, "0" + "o".repeat(59));
        Due.due("full", x.count(16), 60);
        Due.due("put() is no change", x.count(17), 0);
        for (int k = 1; k <= 8; k++) {
            x.pass(1);
            Due.due("changes", x.count(17), Math.min(k, 6));
        }
        x.wipe();
        Due.due("empty", x.count(16), 0);
        x.undo();
        Due.due("5", x.count(17), 5);
    }

    private static void meanErrors() {
        Due.about("Promise 10", "Returns the ticks; NO_SUCH if there is no such gate");
        BeamTurnstiles x = Due.after("0oio;.3;0i;5ioi;.4;5o");
        for (int gate : new int[] {-1, 6, MIN, MAX}) {
            Due.due("mean(" + gate + ")", x.mean(gate), NO_SUCH);
        }
        Due.due("mean(0)", x.mean(0), 3);
        Due.due("mean(5)", x.mean(5), 4);
    }

    private static void meanNone() {
        Due.about("Promise 10", "NONE if there were none.");
        BeamTurnstiles x = Due.after("2oo;2bb;2oio;.9");
        Due.due("neither in nor out yet", x.mean(2), NONE);
        x.clear(2);
        Due.due("cleared", x.mean(2), NONE);
        Due.events(x, 2, "ioio");
        Due.due("one of 0 ticks", x.mean(2), 0);
        Due.due("another gate", x.mean(3), NONE);
        x.undo();
        Due.due("undone", x.mean(2), NONE);
    }

    private static void busiestNone() {
        Due.about("Promise 11", "Returns the gate; NONE if there were none at any.");
        BeamTurnstiles x = Due.after("0oo;1bb;2ii;3oio");
        Due.due("none", x.busiest(), NONE);
        x.event(3, 1);
        Due.due("one", x.busiest(), 3);
        for (int gate = 0; gate < 6; gate++) {
            Due.due("in, gate " + gate + " alone", Due.after(gate + "oioi").busiest(), gate);
            Due.due("out, gate " + gate + " alone", Due.after(gate + "ioio").busiest(), gate);
        }
    }

    private static void busiestLowest() {
        Due.about("Promise 11", "Finds the gate with the most passages that were in or out; of several the lowest.");
        BeamTurnstiles x = new BeamTurnstiles();
        for (int gate = 5; gate >= 0; gate--) {
            Due.events(x, gate, gate % 2 == 0 ? "oioi" : "ioio");
            Due.due("as many at each from " + gate, x.busiest(), gate);
        }
        for (int gate = 1; gate < 6; gate++) {
            BeamTurnstiles y = Due.after("0oioi;1ioio;2oioi;3ioio;4oioi;5ioio");
            Due.events(y, gate, "oioi");
            Due.due("one more at " + gate, y.busiest(), gate);
            Due.events(y, gate - 1, "ioio");
            Due.due("as many below " + gate, y.busiest(), gate - 1);
        }
    }

    private static void ifReadErrors() {
        Due.about("Promise 12",
            "Returns the number; BAD_TEXT if the pad has a fault; BAD_VALUE if what is out of range.");
        BeamTurnstiles x = new BeamTurnstiles();
        int[] wrong = {-1, 6, 7, MIN, MAX};
        for (int what : wrong) {
            Due.due("empty, ifRead(" + what + ")", x.ifRead(what), BAD_TEXT);
        }
        for (int what = 0; what < 6; what++) {
            Due.due("empty, ifRead(" + what + ")", x.ifRead(what), BAD_TEXT);
        }
        Due.putText(x, "0oioi;0");
        for (int what : wrong) {
            Due.due("faulty, ifRead(" + what + ")", x.ifRead(what), BAD_TEXT);
        }
        for (int what = 0; what < 6; what++) {
            Due.due("faulty, ifRead(" + what + ")", x.ifRead(what), BAD_TEXT);
        }
        x.put('o');
        for (int what : wrong) {
            Due.due("ifRead(" + what + ")", x.ifRead(what), BAD_VALUE);
        }
        Due.due("ifRead(0)", x.ifRead(0), 1);
        Due.due("ifRead(5)", x.ifRead(5), 0);
    }

    private static void ifReadNoPassage() {
        Due.about("Promise 12", "what: 0 passages that would be in by them, 1 out, 2 turned back, 3 lost");
        String[] texts = {".1", "0o", "0oioi", "0ioio", "0oo", "0bb", "0oioi;0oioi;1ioio;2oo;2oo;2oo;3bb;3bb;3bb;3bb"};
        int[][] due = {{0, 0, 0, 0}, {0, 0, 0, 0}, {1, 0, 0, 0}, {0, 1, 0, 0}, {0, 0, 1, 0}, {0, 0, 0, 1},
            {2, 1, 3, 4}};
        for (int k = 0; k < texts.length; k++) {
            // What has been so far must not be counted again.
            BeamTurnstiles x = Due.after("0oioi;1ioio;2oo;3bb;4oioi;4ioio;5oo;5bb");
            Due.putText(x, texts[k]);
            for (int what = 0; what < 4; what++) {
                Due.due(texts[k] + ": ifRead(" + what + ")", x.ifRead(what), due[k][what]);
            }
        }
        BeamTurnstiles y = Due.after("0oio;1ioi;2o;3ob");
        Due.putText(y, "0i;1o;2o;3i");
        for (int what = 0; what < 4; what++) {
            Due.due("those under way: ifRead(" + what + ")", y.ifRead(what), 1);
        }
    }

    private static void ifReadPeopleAndAlarms() {
        Due.about("Promise 12", "4 people inside then, 5 alarms by them");
        String[] texts = {".1", "0oioi", "0oioioioi", "0oioioioi;1oioi", "0ioio", "0ioioioio", "0ioioioioioioioio",
            "0oioioioioioi;0ioioioio;0oioi"};
        int[] people = {2, 3, 4, 5, 1, 0, 0, 4};
        int[] alarms = {0, 0, 1, 2, 0, 0, 0, 3};
        for (int k = 0; k < texts.length; k++) {
            BeamTurnstiles x = Due.after("3oioioioioioioioi");
            x.set(2, 3);
            Due.events(x, 3, "oioi");
            Due.due("an alarm before", x.count(6), 1);
            x.correct(2);
            Due.putText(x, texts[k]);
            Due.due("people by " + texts[k], x.ifRead(4), people[k]);
            Due.due("alarms by " + texts[k], x.ifRead(5), alarms[k]);
        }
    }

    private static void ifReadTheLongestText() {
        Due.about("Promise 12", "Tells what the events of the pad would bring.");
        BeamTurnstiles x = new BeamTurnstiles();
        String text = "0" + "oioi".repeat(5) + "oio;.9;1" + "ioio".repeat(6) + ";5i;2bb";
        Due.due("characters", text.length(), 60);
        Due.putText(x, text);
        int[] due = {5, 6, 0, 1, 0, 0};
        for (int what = 0; what < 6; what++) {
            Due.due("ifRead(" + what + ")", x.ifRead(what), due[what]);
        }
        Due.due("read", x.read(), 12);
    }

    private static void ifReadChangesNothing() {
        Due.about("Texts", "what if; nothing changes.");
        BeamTurnstiles x = Due.after("0oio;.20");
        Due.putText(x, "0i;.10;1oioi");
        for (int k = 0; k < 3; k++) {
            Due.due("in", x.ifRead(0), 2);
            Due.due("people then", x.ifRead(4), 2);
            Due.due("people now", x.count(4), 0);
            Due.due("most now", x.count(5), 0);
            Due.due("ticks now", x.count(3), 20);
            Due.due("look now", x.gate(0, 0), 3);
            Due.due("pad", x.count(16), 12);
            Due.due("changes", x.count(17), 1);
            Due.due("to go", x.eventsTo(0, 0), 1);
            Due.due("until blocked", x.untilBlocked(), 10);
        }
    }

    private static void eventsToErrors() {
        Due.about("Promise 13",
            "NO_SUCH if there is no such gate; BAD_VALUE if way is out of range; NOT_POSSIBLE if no passage is "
            + "under way, or it is unsure");
        BeamTurnstiles x = Due.after("0o;1b;5i");
        int[] wrong = {-1, 3, 4, MIN, MAX};
        for (int gate : new int[] {-1, 6, MIN, MAX}) {
            for (int way : new int[] {-1, 0, 2, 3, MIN, MAX}) {
                Due.due("eventsTo(" + gate + ", " + way + ")", x.eventsTo(gate, way), NO_SUCH);
            }
        }
        // Under way, unsure, and nothing under way: the way is looked at first.
        for (int way : wrong) {
            Due.due("eventsTo(0, " + way + ")", x.eventsTo(0, way), BAD_VALUE);
            Due.due("eventsTo(1, " + way + ")", x.eventsTo(1, way), BAD_VALUE);
            Due.due("eventsTo(2, " + way + ")", x.eventsTo(2, way), BAD_VALUE);
        }
        Due.due("eventsTo(0, 0)", x.eventsTo(0, 0), 3);
        Due.due("eventsTo(5, 2)", x.eventsTo(5, 2), 1);
    }

    private static void eventsToNotPossible() {
        Due.about("Promise 13", "NOT_POSSIBLE if no passage is under way, or it is unsure");
        String[] letters = {"", "oioi", "ioio", "oo", "bb", "b", "ob", "ib", "oiob", "obb", "obi", "bo"};
        for (String each : letters) {
            BeamTurnstiles x = new BeamTurnstiles();
            Due.events(x, 2, each);
            for (int way = 0; way < 3; way++) {
                Due.due("behind " + each + ": eventsTo(2, " + way + ")", x.eventsTo(2, way), NOT_POSSIBLE);
            }
        }
        BeamTurnstiles y = Due.after("2o");
        y.clear(2);
        Due.due("cleared", y.eventsTo(2, 0), NOT_POSSIBLE);
        y.event(2, 1);
        Due.due("sure again", y.eventsTo(2, 1), 3);
    }

    private static void eventsToEachPlace() {
        Due.about("Promise 13", "NONE if it cannot end so (without ending in another way ahead of that).");
        String[] letters = {"o", "oi", "oio", "oioo", "oii", "i", "io", "ioi", "ioii", "ioo"};
        int[] in = {3, 2, 1, 2, 3, NONE, NONE, NONE, NONE, NONE};
        int[] out = {NONE, NONE, NONE, NONE, NONE, 3, 2, 1, 2, 3};
        int[] back = {1, 2, 3, 2, 1, 1, 2, 3, 2, 1};
        for (int k = 0; k < letters.length; k++) {
            BeamTurnstiles x = new BeamTurnstiles();
            Due.events(x, 5, letters[k]);
            Due.due(letters[k] + " to in", x.eventsTo(5, 0), in[k]);
            Due.due(letters[k] + " to out", x.eventsTo(5, 1), out[k]);
            Due.due(letters[k] + " to turned back", x.eventsTo(5, 2), back[k]);
        }
    }

    private static void untilBlockedAtItsBounds() {
        Due.about("Promise 14", "Returns how many, 1 or more");
        int[] slow = {1, 2, 30, 200};
        for (int each : slow) {
            BeamTurnstiles x = new BeamTurnstiles();
            x.set(0, each);
            x.event(2, 0);
            Due.due("the most by SLOW " + each, x.untilBlocked(), each);
            if (each > 1) {
                x.pass(each - 1);
            }
            Due.due("the fewest by SLOW " + each, x.untilBlocked(), 1);
            Due.due("not blocked by SLOW " + each, x.count(14), 0);
            Due.due("one more tick", x.pass(1), 1);
            Due.due("blocked by SLOW " + each, x.untilBlocked(), NONE);
        }
    }

    private static void untilBlockedNone() {
        Due.about("Promise 14", "NONE if none would be.");
        BeamTurnstiles x = new BeamTurnstiles();
        Due.due("nothing under way", x.untilBlocked(), NONE);
        Due.readText(x, "0oioi;1bb;2oo");
        Due.due("nothing under way again", x.untilBlocked(), NONE);
        x.event(5, 2);
        x.pass(10);
        x.event(0, 0);
        Due.due("an unsure one, of the higher gate", x.untilBlocked(), 20);
        x.pass(20);
        Due.due("the next one", x.untilBlocked(), 10);
        x.pass(10);
        Due.due("all that are under way are blocked", x.untilBlocked(), NONE);
        x.set(0, 31);
        Due.due("not by a longer SLOW", x.untilBlocked(), 1);
    }

    private static void untilBlockedNext() {
        Due.about("Promise 14", "Tells behind how many ticks the next gate is blocked that is not blocked now");
        // In whichever order of the gates the passages began.
        for (int first = 0; first < 6; first++) {
            for (int second = 0; second < 6; second++) {
                if (first != second) {
                    BeamTurnstiles x = Due.after(first + "o;.10;" + second + "b;.10");
                    Due.due(first + " ahead of " + second, x.untilBlocked(), 10);
                    x.pass(10);
                    Due.due(first + " is blocked, " + second + " next", x.untilBlocked(), 10);
                }
            }
        }
    }

    private static void untilBlockedAtTheEndOfTicks() {
        Due.about("Promise 14",
            "Tells behind how many ticks the next gate is blocked that is not blocked now, if no event happens.");
        // The document says nothing of the end of the ticks here, so it isn't looked at.
        BeamTurnstiles x = Due.atTick(99998);
        x.event(2, 0);
        Due.due("beyond the end", x.untilBlocked(), 30);
        x.pass(1);
        Due.due("beyond the end", x.untilBlocked(), 29);
        BeamTurnstiles y = Due.atTick(99969);
        y.event(2, 0);
        Due.due("just at the end", y.untilBlocked(), 30);
        Due.due("blocked at the end", y.pass(30), 1);
    }
}
