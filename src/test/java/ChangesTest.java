/** Promises 1 to 7: a new object, set, event, pass, read, correct, clear. */
final class ChangesTest {
    private static final int NO_SUCH = -1, BAD_VALUE = -2, BAD_TEXT = -3, TOO_MANY = -4, NOT_POSSIBLE = -5, NONE = -6;

    private ChangesTest() {
    }

    public static void main(String[] args) {
        newObject();
        settings();
        settingsTakeEffect();
        looks();
        eachBeam();
        wrongEvents();
        ends();
        unsure();
        slowOnes();
        tails();
        peopleAndAlarms();
        ticksPass();
        wrongTicks();
        ticksHaveAnEnd();
        reading();
        readingAtTheEndOfTicks();
        correcting();
        wrongPeople();
        clearing();
        clearTellsTheLook();
        Due.end("ChangesTest");
    }

    private static void newObject() {
        Due.about("Promise 1", "Creates free gates, with nobody inside, at the tick 0.");
        BeamTurnstiles x = new BeamTurnstiles();
        int[] counts = {30, 3, 20, 0, 0, 0, 0, 0, 0, 0, 0, 0, 0, 0, 0, 0, 0, 0};
        for (int what = 0; what < counts.length; what++) {
            Due.due("new: count " + what, x.count(what), counts[what]);
        }
        int[] told = {0, NONE, NONE, NONE, 0, 0, 0, 0, 0, 0, 0, 0, NONE};
        for (int gate = 0; gate < 6; gate++) {
            for (int what = 0; what < told.length; what++) {
                Due.due("new: gate " + gate + " " + what, x.gate(gate, what), told[what]);
            }
        }
        Due.due("new: undo", x.undo(), NOT_POSSIBLE);
        Due.due("new: restore", x.restore(1), NOT_POSSIBLE);
        Due.due("new: fault", x.fault(), 0);
    }

    private static void settings() {
        Due.about("Settings",
            "(In parentheses: range; first value.) SLOW (1 to 200; 30), TAIL (0 to 50; 3): ticks. LIMIT (1 to "
            + "500; 20): people.");
        BeamTurnstiles x = new BeamTurnstiles();
        int[][] ranges = {{1, 200, 30}, {0, 50, 3}, {1, 500, 20}};
        for (int setting = 0; setting < 3; setting++) {
            int[] range = ranges[setting];
            Due.due("set below", x.set(setting, range[0] - 1), BAD_VALUE);
            Due.due("set above", x.set(setting, range[1] + 1), BAD_VALUE);
            Due.due("set far below", x.set(setting, Integer.MIN_VALUE), BAD_VALUE);
            Due.due("set far above", x.set(setting, Integer.MAX_VALUE), BAD_VALUE);
            Due.due("unchanged", x.count(setting), range[2]);
            Due.due("no change recorded", x.count(17), setting * 2);
            Due.due("set lowest", x.set(setting, range[0]), range[2]);
            Due.due("set highest", x.set(setting, range[1]), range[0]);
            Due.due("changed", x.count(setting), range[1]);
        }
        Due.due("set -1", x.set(-1, 5), BAD_VALUE);
        Due.due("set 3", x.set(3, 5), BAD_VALUE);
        Due.due("set min", x.set(Integer.MIN_VALUE, 5), BAD_VALUE);
        Due.due("set max", x.set(Integer.MAX_VALUE, 5), BAD_VALUE);
    }

    private static void settingsTakeEffect() {
        Due.about("Promise 2", "Changes a setting.");
        BeamTurnstiles x = Due.after("0o;.10;0ioi");
        Due.due("not slow by 30", x.gate(0, 9), 0);
        x.set(0, 10);
        Due.due("what is past stays", x.gate(0, 9), 0);
        Due.readText(x, "0o;.10;0ioi");
        Due.due("slow by 10", x.gate(0, 9), 1);
        x.event(1, 0);
        x.pass(9);
        Due.due("9 of 10", x.gate(1, 4), 0);
        x.set(0, 9);
        Due.due("9 of 9", x.gate(1, 4), 1);
    }

    private static void looks() {
        Due.about("Promise 3", "Returns the look of the gate then");
        int[][] then = {{1, 3, 2}, {0, 2, 3}, {3, 1, 0}, {2, 0, 1}};
        String[] to = {"", "2o", "2oi", "2i"};
        for (int look = 0; look < 4; look++) {
            for (int beam = 0; beam < 3; beam++) {
                BeamTurnstiles x = look == 0 ? new BeamTurnstiles() : Due.after(to[look]);
                Due.due("look before", x.gate(2, 0), look);
                Due.due("look " + look + ", beam " + beam, x.event(2, beam), then[look][beam]);
                Due.due("look after", x.gate(2, 0), then[look][beam]);
                Due.due("other gate", x.gate(3, 0), 0);
            }
        }
    }

    private static void eachBeam() {
        Due.about("Promise 3", "An event: a beam changes, or both at once.");
        BeamTurnstiles x = new BeamTurnstiles();
        for (int gate = 0; gate < 6; gate++) {
            Due.due("one beam", x.event(gate, gate % 2), gate % 2 == 0 ? 1 : 3);
            Due.due("both at once", x.event(gate, 2), gate % 2 == 0 ? 3 : 1);
            Due.due("the gates so far", x.count(15), (2 << gate) - 1);
        }
        Due.due("no tick goes by", x.count(3), 0);
        Due.about("Promise 3", "beam: 0 the outer one, 1 the inner one, 2 both");
        Due.due("0: the outer one alone is cut", new BeamTurnstiles().event(3, 0), 1);
        Due.due("1: the inner one alone is cut", new BeamTurnstiles().event(3, 1), 3);
        Due.due("2: both are cut", new BeamTurnstiles().event(3, 2), 2);
    }

    private static void wrongEvents() {
        Due.about("Promise 3", "NO_SUCH if there is no such gate; BAD_VALUE if beam is out of range.");
        BeamTurnstiles x = new BeamTurnstiles();
        int[] noGates = {-1, 6, Integer.MIN_VALUE, Integer.MAX_VALUE};
        for (int gate : noGates) {
            Due.due("event, no gate", x.event(gate, 0), NO_SUCH);
            Due.due("event, no gate, no beam", x.event(gate, 3), NO_SUCH);
        }
        int[] noBeams = {-1, 3, Integer.MIN_VALUE, Integer.MAX_VALUE};
        for (int beam : noBeams) {
            Due.due("event, no beam", x.event(5, beam), BAD_VALUE);
        }
        Due.due("nothing recorded", x.count(17), 0);
        Due.due("nothing under way", x.count(15), 0);
        Due.due("gate 5", x.event(5, 0), 1);
        Due.due("recorded", x.count(17), 1);
    }

    /** Row by row: events of one gate, and the passages in, out, turned back and lost by them. */
    private static void ends() {
        Due.about("Passages",
            "When a passage ends, it is: lost, if it is unsure; otherwise in, if its place is 4; out, if it is "
            + "-4; turned back, if it is 0.");
        ended("oioi", 1, 0, 0, 0);
        ended("ioio", 0, 1, 0, 0);
        ended("oo", 0, 0, 1, 0);
        ended("ii", 0, 0, 1, 0);
        ended("oiio", 0, 0, 1, 0);
        ended("oiooio", 0, 0, 1, 0);
        ended("iooi", 0, 0, 1, 0);
        ended("ioiioi", 0, 0, 1, 0);
        ended("oioooi", 1, 0, 0, 0);
        ended("oiioioi", 0, 0, 1, 0);
        ended("oiooiooioi", 1, 0, 1, 0);
        ended("ioiiio", 0, 1, 0, 0);
        ended("oioioioi", 2, 0, 0, 0);
        ended("oioiioio", 1, 1, 0, 0);
    }

    private static void ended(String letters, int in, int out, int back, int lost) {
        BeamTurnstiles x = new BeamTurnstiles();
        Due.due("read 4" + letters, Due.readText(x, "4" + letters), in + out + back + lost);
        Due.due("in by " + letters, x.gate(4, 5), in);
        Due.due("out by " + letters, x.gate(4, 6), out);
        Due.due("back by " + letters, x.gate(4, 7), back);
        Due.due("lost by " + letters, x.gate(4, 8), lost);
    }

    private static void unsure() {
        Due.about("Passages",
            "If both change at once, the passage is unsure from then on (also one that begins by that)");
        ended("bb", 0, 0, 0, 1);
        ended("boi", 0, 0, 0, 1);
        ended("obi", 0, 0, 0, 1);
        ended("obbo", 0, 0, 0, 1);
        ended("oiobioi", 0, 0, 0, 1);
        ended("bboo", 0, 0, 1, 1);
        ended("bboioi", 1, 0, 0, 1);
        ended("oib", 0, 0, 0, 1);
        BeamTurnstiles x = Due.after("4bb");
        Due.due("nobody in", x.count(4), 0);
        Due.due("no ticks", x.gate(4, 11), 0);
        Due.due("no latest", x.gate(4, 12), NONE);
    }

    private static void slowOnes() {
        Due.about("Passages", "It is slow if it takes SLOW ticks or more.");
        String[] ways = {"0o;.29;0ioi", "0i;.29;0oio", "0o;.29;0o", "0b;.29;0b"};
        String[] slow = {"0o;.30;0ioi", "0i;.30;0oio", "0o;.30;0o", "0b;.30;0b"};
        for (int k = 0; k < 4; k++) {
            Due.due("29 ticks " + k, Due.after(ways[k]).gate(0, 9), 0);
            Due.due("30 ticks " + k, Due.after(slow[k]).gate(0, 9), 1);
        }
    }

    private static void tails() {
        Due.about("Passages",
            "A passage, in or out, is a tail, if the latest passage before it at this gate that was in or out "
            + "was the same way as it, and its beginning less the end of that is at most TAIL.");
        tailsBy("0oioi;.3;0oioi", 1);
        tailsBy("0oioi;.4;0oioi", 0);
        tailsBy("0oioi;0oioi;0oioi", 2);
        tailsBy("0ioio;.3;0ioio", 1);
        tailsBy("0ioio;.4;0ioio", 0);
        tailsBy("0oioi;0ioio", 0);
        tailsBy("0ioio;0oioi", 0);
        tailsBy("0oioi;0ioio;0oioi", 0);
        tailsBy("0oioi;0oo;0bb;0oioi", 1);
        // Its beginning counts, not its end, and the end of the one before, not its beginning.
        tailsBy("0oioi;.3;0oio;.9;0i", 1);
        tailsBy("0oio;.9;0i;.3;0oioi", 1);
        tailsBy("0oioi;1oioi", 0);
        BeamTurnstiles x = new BeamTurnstiles();
        x.set(1, 0);
        Due.readText(x, "0oioi;0oioi;.1;0oioi");
        Due.due("tails by TAIL 0", x.gate(0, 10), 1);
        BeamTurnstiles y = new BeamTurnstiles();
        y.set(1, 50);
        Due.readText(y, "0oioi");
        Due.due("no tail before the first", y.gate(0, 10), 0);
    }

    private static void tailsBy(String text, int tails) {
        Due.due("tails by " + text, Due.after(text).gate(0, 10), tails);
    }

    private static void peopleAndAlarms() {
        Due.about("Passages",
            "A passage that is in makes the people inside 1 more; one that is out 1 less, but never below 0: "
            + "then it is odd as well.");
        BeamTurnstiles x = new BeamTurnstiles();
        x.set(2, 2);
        int[] alarms = {0, 0, 1, 2};
        for (int k = 0; k < alarms.length; k++) {
            Due.readText(x, "3oioi");
            Due.due("people", x.count(4), k + 1);
            Due.due("alarms", x.count(6), alarms[k]);
        }
        Due.readText(x, "3ioio");
        Due.due("out: people", x.count(4), 3);
        Due.due("out: no alarm", x.count(6), 2);
        Due.due("most", x.count(5), 4);
        x.correct(1);
        Due.readText(x, "2ioio");
        Due.due("not odd yet", x.count(7), 0);
        Due.readText(x, "2ioio;1ioio");
        Due.due("never below 0", x.count(4), 0);
        Due.due("odd", x.count(7), 2);
        Due.due("odd ones are out, too", x.count(9), 4);
        x.set(2, 1);
        Due.due("a limit alone makes no alarm", x.count(6), 2);
    }

    private static void ticksPass() {
        Due.about("Promise 4", "Lets ticks go by.");
        BeamTurnstiles x = new BeamTurnstiles();
        x.event(0, 0);
        x.event(5, 2);
        Due.due("pass 29", x.pass(29), 0);
        x.event(1, 1);
        Due.due("pass 1", x.pass(1), 2);
        Due.due("ticks", x.count(3), 30);
        Due.due("pass 999", x.pass(999), 3);
        Due.due("ticks", x.count(3), 1029);
        x.event(5, 2);
        Due.due("two yet", x.pass(1), 2);
    }

    private static void wrongTicks() {
        Due.about("Promise 4", "ticks: 1 to 999");
        BeamTurnstiles x = new BeamTurnstiles();
        int[] wrong = {0, -1, 1000, Integer.MIN_VALUE, Integer.MAX_VALUE};
        for (int ticks : wrong) {
            Due.due("pass " + ticks, x.pass(ticks), BAD_VALUE);
        }
        Due.due("no ticks", x.count(3), 0);
        Due.due("nothing recorded", x.count(17), 0);
        int sum = 0;
        for (int ticks : new int[] {1, 2, 500, 998, 999}) {
            sum += ticks;
            Due.due("pass " + ticks, x.pass(ticks), 0);
            Due.due("ticks", x.count(3), sum);
        }
    }

    private static void ticksHaveAnEnd() {
        Due.about("Promise 4", "TOO_MANY if the ticks would be above 99999.");
        BeamTurnstiles x = Due.atTick(99990);
        Due.due("pass 10", x.pass(10), TOO_MANY);
        Due.due("pass 1000 first", x.pass(1000), BAD_VALUE);
        Due.due("still", x.count(3), 99990);
        Due.due("pass 9", x.pass(9), 0);
        Due.due("the end", x.count(3), 99999);
        Due.due("pass 1", x.pass(1), TOO_MANY);
    }

    private static void reading() {
        Due.about("Promise 5", "Lets the events of the pad happen, one after the other, and empties the pad");
        BeamTurnstiles x = new BeamTurnstiles();
        Due.due("empty", x.read(), BAD_TEXT);
        Due.due("ticks only", Due.readText(x, ".1;.99"), 0);
        Due.due("ticks", x.count(3), 100);
        Due.due("pad is empty", x.count(16), 0);
        Due.due("empty again", x.read(), BAD_TEXT);
        Due.due("all kinds", Due.readText(x, "0oioi;1ioio;2oo;3bb;4o;5i;4o"), 5);
        Due.due("under way", x.count(15), 32);
        Due.due("nothing ends", Due.readText(x, "5o"), 0);
        Due.due("changes", x.count(17), 3);
        Due.putText(x, "5oi;");
        Due.due("fault", x.read(), BAD_TEXT);
        Due.due("nothing happened", x.gate(5, 0), 2);
        Due.due("pad kept", x.count(16), 4);
        Due.due("nothing recorded", x.count(17), 3);
        Due.due("59 changes", Due.readText(new BeamTurnstiles(), "0" + "o".repeat(59)), 29);
    }

    private static void readingAtTheEndOfTicks() {
        Due.about("Promise 5", "ticks by which they would be above 99999 are passed over.");
        BeamTurnstiles x = Due.atTick(99990);
        Due.due("read", Due.readText(x, "0o;.10;0o;.4;1o;.6;.5;1o"), 2);
        Due.due("too many ticks are passed over, fewer are not", x.count(3), 99999);
        Due.due("the passage took none of them", x.gate(0, 1), NONE);
        Due.readText(x, "2oio;.1;2i");
        Due.due("at the end", x.count(3), 99999);
        Due.due("0 ticks", x.gate(2, 11), 0);
    }

    private static void correcting() {
        Due.about("Promise 6", "Counts people by hand: the people inside become as many.");
        BeamTurnstiles x = new BeamTurnstiles();
        Due.due("correct 999", x.correct(999), 0);
        Due.due("no alarm", x.count(6), 0);
        Due.due("correct 0", x.correct(0), 999);
        Due.due("people", x.count(4), 0);
        Due.due("most", x.count(5), 999);
        Due.due("same again", x.correct(0), 0);
        Due.due("recorded all the same", x.count(17), 3);
        x.correct(999);
        Due.readText(x, "0oioi");
        Due.due("1000 inside", x.count(4), 1000);
        Due.due("most 1000", x.count(5), 1000);
        Due.due("an alarm", x.count(6), 1);
    }

    private static void wrongPeople() {
        Due.about("Promise 6", "people: 0 to 999");
        BeamTurnstiles x = new BeamTurnstiles();
        int[] wrong = {-1, 1000, Integer.MIN_VALUE, Integer.MAX_VALUE};
        for (int people : wrong) {
            Due.due("correct " + people, x.correct(people), BAD_VALUE);
        }
        Due.due("nobody", x.count(4), 0);
        Due.due("nothing recorded", x.count(17), 0);
        for (int people = 0; people < 1000; people++) {
            BeamTurnstiles y = new BeamTurnstiles();
            Due.due("correct " + people, y.correct(people), 0);
            Due.due("people", y.count(4), people);
        }
    }

    private static void clearTellsTheLook() {
        Due.about("Promise 7", "Returns its look before");
        String[] letters = {"o", "i", "b", "oi", "io", "ob", "ib", "oio", "ioi"};
        int[] looks = {1, 3, 2, 2, 2, 3, 1, 3, 1};
        for (int k = 0; k < letters.length; k++) {
            for (int gate = 0; gate < 6; gate++) {
                BeamTurnstiles x = new BeamTurnstiles();
                Due.events(x, gate, letters[k]);
                Due.due("clear(" + gate + ") behind " + letters[k], x.clear(gate), looks[k]);
            }
        }
    }

    private static void clearing() {
        Due.about("Promise 7",
            "Clears a gate: both beams are free, and the passage that is under way ends, lost (and slow, if it "
            + "is that).");
        BeamTurnstiles x = new BeamTurnstiles();
        int[] noGates = {-1, 6, Integer.MIN_VALUE, Integer.MAX_VALUE};
        for (int gate : noGates) {
            Due.due("clear, no gate", x.clear(gate), NO_SUCH);
        }
        Due.due("clear a free gate", x.clear(0), NOT_POSSIBLE);
        Due.due("nothing recorded", x.count(17), 0);
        String[] texts = {"0o", "1oi", "2i", "3b"};
        int[] looks = {1, 2, 3, 2};
        for (int gate = 0; gate < 4; gate++) {
            Due.readText(x, texts[gate]);
            Due.due("clear", x.clear(gate), looks[gate]);
            Due.due("free", x.gate(gate, 0), 0);
            Due.due("lost", x.gate(gate, 8), 1);
            Due.due("not turned back", x.gate(gate, 7), 0);
            Due.due("not slow", x.gate(gate, 9), 0);
            Due.due("clear again", x.clear(gate), NOT_POSSIBLE);
        }
        Due.due("recorded", x.count(17), 6);
        Due.readText(x, "0oio;.30");
        Due.due("clear a slow one", x.clear(0), 3);
        Due.due("slow", x.gate(0, 9), 1);
        Due.due("lost again", x.gate(0, 8), 2);
        Due.due("nobody in", x.count(4), 0);
        Due.due("sure again", Due.readText(x, "0oioi"), 1);
        Due.due("one in", x.gate(0, 5), 1);
    }
}
