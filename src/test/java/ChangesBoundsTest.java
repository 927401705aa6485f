/** The sentences of promises 1 to 7 that name a bound: a new object, set, event, pass, read, correct, clear. */
final class ChangesBoundsTest {
    private static final int NO_SUCH = -1, BAD_VALUE = -2, BAD_TEXT = -3, TOO_MANY = -4, NOT_POSSIBLE = -5, NONE = -6;
    private static final int MIN = Integer.MIN_VALUE, MAX = Integer.MAX_VALUE;

    private ChangesBoundsTest() {
    }

    public static void main(String[] args) {
        nobodyInside();
        noSuchSetting();
        valuesOutOfRange();
        previousValues();
        eventsAtGates();
        eventsOfBeams();
        eventsInOrderOfErrors();
        passOneTo999();
        passToTheEndOfTicks();
        passInOrderOfErrors();
        passTellsBlockedGates();
        readFaulty();
        readTheLongestText();
        readTicksToTheEnd();
        readTicksAboveTheEnd();
        readTellsWhatEnds();
        correctFrom0To999();
        correctFromMore();
        correctAlarmsNobody();
        clearNoGate();
        clearNothing();
        clearEachLook();
        clearSlowOnes();
        clearCountsNobody();
        Due.end("ChangesBoundsTest");
    }

    private static void nobodyInside() {
        Due.about("Promise 1", "Creates free gates, with nobody inside, at the tick 0.");
        BeamTurnstiles x = new BeamTurnstiles();
        for (int gate = 0; gate < 6; gate++) {
            Due.due("look of " + gate, x.gate(gate, 0), 0);
            Due.due("began at " + gate, x.gate(gate, 1), NONE);
        }
        Due.due("ticks", x.count(3), 0);
        Due.due("people", x.count(4), 0);
        Due.due("most people", x.count(5), 0);
        Due.due("length of the pad", x.count(16), 0);
        Due.due("changes", x.count(17), 0);
        BeamTurnstiles y = Due.after("0oioi;1o;.9");
        Due.due("another object", x.count(3) + x.count(4) + x.count(15), 0);
        Due.due("the other", y.count(3) + y.count(4) + y.count(15), 12);
    }

    private static void noSuchSetting() {
        Due.about("Promise 2", "BAD_VALUE if there is no such setting");
        BeamTurnstiles x = new BeamTurnstiles();
        for (int setting : new int[] {-1, 3, MIN, MAX}) {
            // 1 and 20 are within the range of every setting.
            Due.due("set(" + setting + ", 1)", x.set(setting, 1), BAD_VALUE);
            Due.due("set(" + setting + ", 20)", x.set(setting, 20), BAD_VALUE);
            Due.due("set(" + setting + ", -1)", x.set(setting, -1), BAD_VALUE);
        }
        Due.due("set(0, 20)", x.set(0, 20), 30);
        Due.due("set(2, 1)", x.set(2, 1), 20);
    }

    private static void valuesOutOfRange() {
        Due.about("Promise 2", "BAD_VALUE if there is no such setting, or value is out of its range.");
        int[] lowest = {1, 0, 1};
        int[] highest = {200, 50, 500};
        int[] first = {30, 3, 20};
        for (int setting = 0; setting < 3; setting++) {
            for (int wrong : new int[] {lowest[setting] - 1, highest[setting] + 1, -highest[setting], MIN, MAX}) {
                BeamTurnstiles x = new BeamTurnstiles();
                Due.due("set(" + setting + ", " + wrong + ")", x.set(setting, wrong), BAD_VALUE);
                Due.due("setting " + setting, x.count(setting), first[setting]);
            }
            for (int right : new int[] {lowest[setting], lowest[setting] + 1, highest[setting] - 1, highest[setting]}) {
                BeamTurnstiles x = new BeamTurnstiles();
                Due.due("set(" + setting + ", " + right + ")", x.set(setting, right), first[setting]);
                Due.due("setting " + setting, x.count(setting), right);
            }
        }
    }

    private static void previousValues() {
        Due.about("Promise 2", "Returns the previous value");
        BeamTurnstiles x = new BeamTurnstiles();
        Due.due("set(1, 0)", x.set(1, 0), 3);
        Due.due("0 is told", x.set(1, 50), 0);
        Due.due("50 is told", x.set(1, 51), BAD_VALUE);
        Due.due("50 is told, not what was refused", x.set(1, 3), 50);
        Due.due("the same again", x.set(1, 3), 3);
        Due.due("SLOW is as it was", x.set(0, 1), 30);
        Due.due("LIMIT is as it was", x.set(2, 1), 20);
    }

    private static void eventsAtGates() {
        Due.about("Promise 3", "NO_SUCH if there is no such gate");
        BeamTurnstiles x = new BeamTurnstiles();
        for (int gate : new int[] {-1, 6, 7, MIN, MAX}) {
            for (int beam = 0; beam < 3; beam++) {
                Due.due("event(" + gate + ", " + beam + ")", x.event(gate, beam), NO_SUCH);
            }
        }
        Due.due("nothing under way", x.count(15), 0);
        Due.due("event(0, 0)", x.event(0, 0), 1);
        Due.due("event(5, 1)", x.event(5, 1), 3);
        Due.due("under way", x.count(15), 33);
    }

    private static void eventsOfBeams() {
        Due.about("Promise 3", "BAD_VALUE if beam is out of range.");
        BeamTurnstiles x = new BeamTurnstiles();
        for (int beam : new int[] {-1, 3, 4, MIN, MAX}) {
            Due.due("event(0, " + beam + ")", x.event(0, beam), BAD_VALUE);
            Due.due("event(5, " + beam + ")", x.event(5, beam), BAD_VALUE);
        }
        Due.due("nothing under way", x.count(15), 0);
        int[] looks = {1, 3, 2};
        for (int beam = 0; beam < 3; beam++) {
            Due.due("event(" + beam + ", " + beam + ")", x.event(beam, beam), looks[beam]);
        }
    }

    private static void eventsInOrderOfErrors() {
        Due.about("Promise 3", "NO_SUCH if there is no such gate; BAD_VALUE if beam is out of range.");
        BeamTurnstiles x = new BeamTurnstiles();
        for (int gate : new int[] {-1, 6}) {
            for (int beam : new int[] {-1, 3, MIN, MAX}) {
                Due.due("event(" + gate + ", " + beam + ")", x.event(gate, beam), NO_SUCH);
            }
        }
    }

    private static void passOneTo999() {
        Due.about("Promise 4", "BAD_VALUE if ticks is out of range");
        BeamTurnstiles x = new BeamTurnstiles();
        for (int ticks : new int[] {0, -1, -999, 1000, 1001, MIN, MAX}) {
            Due.due("pass(" + ticks + ")", x.pass(ticks), BAD_VALUE);
            Due.due("ticks", x.count(3), 0);
        }
        Due.due("pass(1)", x.pass(1), 0);
        Due.due("ticks", x.count(3), 1);
        Due.due("pass(999)", x.pass(999), 0);
        Due.due("ticks", x.count(3), 1000);
    }

    private static void passToTheEndOfTicks() {
        Due.about("Promise 4", "TOO_MANY if the ticks would be above 99999.");
        int[][] rows = {{99000, 999}, {99001, 998}, {99998, 1}, {99500, 499}};
        for (int[] row : rows) {
            BeamTurnstiles x = Due.atTick(row[0]);
            Due.due("one more from " + row[0], x.pass(row[1] + 1), row[1] == 999 ? BAD_VALUE : TOO_MANY);
            Due.due("ticks", x.count(3), row[0]);
            Due.due("as many as fit from " + row[0], x.pass(row[1]), 0);
            Due.due("ticks", x.count(3), 99999);
            Due.due("1 more", x.pass(1), TOO_MANY);
            Due.due("999 more", x.pass(999), TOO_MANY);
            Due.due("ticks", x.count(3), 99999);
        }
        BeamTurnstiles y = Due.atTick(99001);
        Due.due("999 from 99001", y.pass(999), TOO_MANY);
        y.pass(998);
        Due.due("undone", y.undo() >= 0 ? 1 : 0, 1);
        Due.due("998 again", y.pass(998), 0);
    }

    private static void passInOrderOfErrors() {
        Due.about("Promise 4", "BAD_VALUE if ticks is out of range; TOO_MANY if the ticks would be above 99999.");
        BeamTurnstiles x = Due.atTick(99999);
        for (int ticks : new int[] {0, -1, 1000, MIN, MAX}) {
            Due.due("pass(" + ticks + ")", x.pass(ticks), BAD_VALUE);
        }
        Due.due("pass(1)", x.pass(1), TOO_MANY);
    }

    private static void passTellsBlockedGates() {
        Due.about("Promise 4", "Returns how many gates are blocked then");
        BeamTurnstiles x = new BeamTurnstiles();
        for (int gate = 0; gate < 6; gate++) {
            x.event(gate, gate % 3);
        }
        Due.due("none by 29", x.pass(29), 0);
        Due.due("all by 30", x.pass(1), 6);
        x.clear(5);
        Due.due("all but one", x.pass(999), 5);
        BeamTurnstiles y = Due.after("0o;.10;1o;.10;2o");
        int[] ticks = {9, 1, 9, 1, 9, 1};
        int[] blocked = {0, 1, 1, 2, 2, 3};
        for (int k = 0; k < ticks.length; k++) {
            Due.due("blocked, row " + k, y.pass(ticks[k]), blocked[k]);
        }
    }

    private static void readFaulty() {
        Due.about("Promise 5", "BAD_TEXT if the pad has a fault.");
        Due.due("an empty pad", new BeamTurnstiles().read(), BAD_TEXT);
        String[] texts = {"0oioi;", "0oioi;.9;6o", "x", "0oioi;.0", "0oioi;.100", "0oioi;0", "0oioi;.", "0oioix",
            "0oioi;;0o", ";0oioi"};
        for (String text : texts) {
            BeamTurnstiles x = new BeamTurnstiles();
            Due.putText(x, text);
            Due.due("read " + text, x.read(), BAD_TEXT);
            Due.due("nobody in by " + text, x.count(4), 0);
            Due.due("ticks by " + text, x.count(3), 0);
            Due.due("pad stays " + text, x.count(16), text.length());
            Due.due("nothing recorded by " + text, x.count(17), 0);
        }
    }

    private static void readTheLongestText() {
        Due.about("Promise 5", "Lets the events of the pad happen, one after the other, and empties the pad");
        BeamTurnstiles x = new BeamTurnstiles();
        String text = "0" + "oioi".repeat(5) + "oio;.9;1" + "ioio".repeat(6) + ";5i;.50";
        Due.due("characters", text.length(), 60);
        Due.due("read", Due.readText(x, text), 11);
        Due.due("in", x.gate(0, 5), 5);
        Due.due("under way", x.gate(0, 2), 7);
        Due.due("out", x.gate(1, 6), 6);
        Due.due("the latest out", x.gate(1, 12), 9);
        Due.due("ticks, as far as the last digit", x.count(3), 59);
        Due.due("people", x.count(4), 0);
        Due.due("most, for in comes first", x.count(5), 5);
        Due.due("odd", x.count(7), 1);
        Due.due("pad", x.count(16), 0);
        Due.due("one change", x.count(17), 1);
        Due.due("read again", x.read(), BAD_TEXT);
        Due.due("the smallest text", Due.readText(x, "1o"), 0);
        Due.due("ticks alone", Due.readText(x, ".1"), 0);
        Due.due("ticks", x.count(3), 60);
    }

    private static void readTicksToTheEnd() {
        Due.about("Promise 5", "ticks by which they would be above 99999 are passed over.");
        BeamTurnstiles x = Due.atTick(99900);
        Due.due("99 to the end", Due.readText(x, ".99"), 0);
        Due.due("ticks", x.count(3), 99999);
        Due.due("1 at the end", Due.readText(x, ".1"), 0);
        Due.due("ticks", x.count(3), 99999);
        Due.due("recorded all the same", x.undo(), 5);
        Due.due("undone", x.count(3), 99999);
    }

    private static void readTicksAboveTheEnd() {
        Due.about("Promise 5", "ticks by which they would be above 99999 are passed over.");
        BeamTurnstiles x = Due.atTick(99990);
        Due.due("10", Due.readText(x, "0o;.10;0o;1o;.9;1o;.1;2oo"), 3);
        Due.due("those behind it happen", x.count(3), 99999);
        Due.due("turned back", x.count(10), 3);
        x.undo();
        Due.due("undone", x.count(3), 99990);
        Due.putText(x, "3oio;.10;3i;4oio;.5;4i;.5;5oioi");
        Due.due("in by that", x.ifRead(0), 3);
        Due.due("read", x.read(), 3);
        Due.due("ticks", x.count(3), 99995);
        Due.due("took none", x.mean(3), 0);
        Due.due("took 5", x.mean(4), 5);
        Due.due("ended", x.gate(5, 12), 99995);
    }

    private static void readTellsWhatEnds() {
        Due.about("Promise 5", "Returns how many passages end by them");
        String[] texts = {"0o", "0oi", "0oioi", "0ioio", "0oo", "0bb", "0oioi;1ioio;2oo;3bb", "0oioioioi", "0oo;0o;0o",
            ".99", "0" + "b".repeat(59), "0o;1o;2o;3o;4o;5o"};
        int[] ended = {0, 0, 1, 1, 1, 1, 4, 2, 2, 0, 29, 0};
        for (int k = 0; k < texts.length; k++) {
            Due.due("read " + texts[k], Due.readText(new BeamTurnstiles(), texts[k]), ended[k]);
        }
        BeamTurnstiles x = Due.after("0oioi;1oio");
        Due.due("one that was under way", Due.readText(x, "1i"), 1);
    }

    private static void correctFrom0To999() {
        Due.about("Promise 6", "BAD_VALUE if people is out of range.");
        BeamTurnstiles x = new BeamTurnstiles();
        for (int people : new int[] {-1, -999, 1000, 1001, MIN, MAX}) {
            Due.due("correct(" + people + ")", x.correct(people), BAD_VALUE);
            Due.due("people", x.count(4), 0);
            Due.due("most", x.count(5), 0);
        }
        Due.due("correct(999)", x.correct(999), 0);
        Due.due("people", x.count(4), 999);
        Due.due("most", x.count(5), 999);
        Due.due("correct(0)", x.correct(0), 999);
        Due.due("people", x.count(4), 0);
        Due.due("most", x.count(5), 999);
        Due.due("correct(1)", x.correct(1), 0);
        Due.due("correct(998)", x.correct(998), 1);
    }

    private static void correctFromMore() {
        Due.about("Promise 6", "Returns how many were inside before");
        BeamTurnstiles x = new BeamTurnstiles();
        x.correct(999);
        Due.readText(x, "0oioioioi");
        Due.due("people, as many as come in", x.count(4), 1001);
        Due.due("1000 is refused yet", x.correct(1000), BAD_VALUE);
        Due.due("before", x.correct(999), 1001);
        Due.due("most", x.count(5), 1001);
    }

    private static void correctAlarmsNobody() {
        Due.about("Promise 6", "No alarm comes of this.");
        BeamTurnstiles x = new BeamTurnstiles();
        x.set(2, 1);
        x.correct(2);
        x.correct(999);
        Due.due("alarms", x.count(6), 0);
        x.correct(0);
        Due.due("nor anything odd", x.count(7), 0);
        Due.due("nor a passage", x.count(8) + x.count(9), 0);
    }

    private static void clearNoGate() {
        Due.about("Promise 7", "NO_SUCH if there is no such gate");
        BeamTurnstiles x = Due.after("0o;5i");
        for (int gate : new int[] {-1, 6, MIN, MAX}) {
            Due.due("clear(" + gate + ")", x.clear(gate), NO_SUCH);
        }
        Due.due("under way", x.count(15), 33);
        Due.due("clear(0)", x.clear(0), 1);
        Due.due("clear(5)", x.clear(5), 3);
        Due.due("under way", x.count(15), 0);
    }

    private static void clearNothing() {
        Due.about("Promise 7", "NOT_POSSIBLE if no passage is under way.");
        BeamTurnstiles x = Due.after("0oioi;1oo;2bb");
        for (int gate = 0; gate < 6; gate++) {
            Due.due("clear(" + gate + ")", x.clear(gate), NOT_POSSIBLE);
        }
        Due.due("lost", x.count(11), 1);
        Due.due("changes", x.count(17), 1);
        x.event(3, 0);
        Due.due("clear(3)", x.clear(3), 1);
        Due.due("clear(3) again", x.clear(3), NOT_POSSIBLE);
        Due.due("lost", x.count(11), 2);
    }

    private static void clearEachLook() {
        Due.about("Promise 7", "both beams are free, and the passage that is under way ends, lost");
        String[] letters = {"o", "oi", "oio", "i", "io", "ioi", "b", "ob", "ib"};
        int[] looks = {1, 2, 3, 3, 2, 1, 2, 3, 1};
        for (int k = 0; k < letters.length; k++) {
            BeamTurnstiles x = new BeamTurnstiles();
            Due.events(x, 4, letters[k]);
            Due.due("look behind " + letters[k], x.clear(4), looks[k]);
            Due.due("free", x.gate(4, 0), 0);
            Due.due("nothing under way", x.gate(4, 1), NONE);
            Due.due("lost", x.gate(4, 8), 1);
            Due.due("in, out and turned back", x.gate(4, 5) + x.gate(4, 6) + x.gate(4, 7), 0);
            Due.due("the outer one is free, too", x.event(4, 0), 1);
        }
    }

    private static void clearSlowOnes() {
        Due.about("Promise 7", "(and slow, if it is that)");
        for (int ticks = 29; ticks <= 31; ticks++) {
            BeamTurnstiles x = Due.after("4oi;." + ticks);
            Due.due("clear behind " + ticks, x.clear(4), 2);
            Due.due("slow by " + ticks, x.gate(4, 9), ticks >= 30 ? 1 : 0);
            Due.due("lost by " + ticks, x.gate(4, 8), 1);
            Due.due("blocked by " + ticks, x.gate(4, 4), 0);
        }
    }

    private static void clearCountsNobody() {
        Due.about("Promise 7", "ends, lost");
        BeamTurnstiles x = Due.after("4oioi;.2;4oio;.7");
        x.clear(4);
        Due.due("people", x.count(4), 1);
        Due.due("ticks of those in or out", x.gate(4, 11), 0);
        Due.due("latest one in or out", x.gate(4, 12), 0);
        Due.due("busiest", x.busiest(), 4);
        Due.due("mean", x.mean(4), 0);
    }
}
