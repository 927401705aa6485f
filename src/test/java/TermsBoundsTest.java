/** The sentences under "Terms" that name a bound: conventions, settings, gates and beams, passages. */
final class TermsBoundsTest {
    private static final int NONE = -6;
    private static final String[] WAYS = {"oioi", "ioio", "oo", "ii", "oiio", "bb", "boi", "oib"};

    private TermsBoundsTest() {
    }

    public static void main(String[] args) {
        constants();
        roundedDown();
        slowAtItsBounds();
        tailAtItsBounds();
        limitAtItsBounds();
        sixGates();
        ticksFromZero();
        beginningAndEnd();
        beginningAnew();
        roundTheRing();
        unsureFromThenOn();
        unsureFromTheBeginning();
        ends();
        neverBelowZero();
        ticksOfAPassage();
        slowBySettingOfTheEnd();
        tailsBehindOthers();
        tailsByBeginningAndEnd();
        blockedByTicks();
        blockedInAnyLook();
        alarmsBehindIn();
        noOtherAlarms();
        Due.end("TermsBoundsTest");
    }

    private static void constants() {
        Due.about("Texts", "The constants: NO_SUCH = -1, BAD_VALUE = -2, BAD_TEXT = -3, TOO_MANY = -4, "
            + "NOT_POSSIBLE = -5, NONE = -6: Error codes, and NONE: there is none.");
        Due.due("NO_SUCH", BeamTurnstiles.NO_SUCH, -1);
        Due.due("BAD_VALUE", BeamTurnstiles.BAD_VALUE, -2);
        Due.due("BAD_TEXT", BeamTurnstiles.BAD_TEXT, -3);
        Due.due("TOO_MANY", BeamTurnstiles.TOO_MANY, -4);
        Due.due("NOT_POSSIBLE", BeamTurnstiles.NOT_POSSIBLE, -5);
        Due.due("NONE", BeamTurnstiles.NONE, -6);
        Due.about("Texts", "SLOW = 0, TAIL = 1, LIMIT = 2: Settings.");
        Due.due("SLOW", BeamTurnstiles.SLOW, 0);
        Due.due("TAIL", BeamTurnstiles.TAIL, 1);
        Due.due("LIMIT", BeamTurnstiles.LIMIT, 2);
        BeamTurnstiles x = new BeamTurnstiles();
        Due.due("set SLOW", x.set(BeamTurnstiles.SLOW, 200), 30);
        Due.due("set TAIL", x.set(BeamTurnstiles.TAIL, 50), 3);
        Due.due("set LIMIT", x.set(BeamTurnstiles.LIMIT, 500), 20);
    }

    private static void roundedDown() {
        Due.about("CONVENTIONS", "Divisions are rounded down.");
        int[][] ticks = {{0}, {1}, {1, 0}, {1, 1}, {1, 2}, {2, 2}, {2, 0, 0}, {2, 1, 0}, {2, 2, 1}, {99, 99, 98}};
        int[] means = {0, 1, 0, 1, 1, 2, 0, 1, 1, 98};
        for (int k = 0; k < ticks.length; k++) {
            BeamTurnstiles x = new BeamTurnstiles();
            for (int each : ticks[k]) {
                Due.events(x, 3, "oio");
                letGoBy(x, each);
                Due.events(x, 3, "i");
            }
            Due.due("mean of row " + k, x.mean(3), means[k]);
        }
    }

    private static void letGoBy(BeamTurnstiles x, int ticks) {
        if (ticks > 0) {
            x.pass(ticks);
        }
    }

    private static void slowAtItsBounds() {
        Due.about("Settings", "SLOW (1 to 200; 30)");
        int[][] rows = {{1, 0, 0}, {1, 1, 1}, {2, 1, 0}, {2, 2, 1}, {30, 29, 0}, {30, 30, 1}, {30, 31, 1},
            {199, 198, 0}, {199, 199, 1}, {200, 199, 0}, {200, 200, 1}, {200, 201, 1}};
        for (int[] row : rows) {
            for (String way : WAYS) {
                BeamTurnstiles x = new BeamTurnstiles();
                x.set(0, row[0]);
                Due.events(x, 3, way.substring(0, 1));
                letGoBy(x, row[1]);
                Due.due("blocked, SLOW " + row[0] + ", " + row[1] + " ticks", x.gate(3, 4), row[2]);
                Due.events(x, 3, way.substring(1));
                Due.due("slow, SLOW " + row[0] + ", " + row[1] + " ticks", x.gate(3, 9), row[2]);
            }
        }
        Due.due("SLOW at first", new BeamTurnstiles().count(0), 30);
    }

    private static void tailAtItsBounds() {
        Due.about("Settings", "TAIL (0 to 50; 3)");
        int[][] rows = {{0, 0, 1}, {0, 1, 0}, {1, 1, 1}, {1, 2, 0}, {3, 3, 1}, {3, 4, 0}, {49, 50, 0}, {50, 49, 1},
            {50, 50, 1}, {50, 51, 0}};
        for (int[] row : rows) {
            for (String way : new String[] {"oioi", "ioio"}) {
                BeamTurnstiles x = new BeamTurnstiles();
                x.set(1, row[0]);
                Due.events(x, 3, way);
                letGoBy(x, row[1]);
                Due.events(x, 3, way);
                Due.due(way + ": TAIL " + row[0] + ", " + row[1] + " ticks", x.gate(3, 10), row[2]);
            }
        }
        Due.due("TAIL at first", new BeamTurnstiles().count(1), 3);
    }

    private static void limitAtItsBounds() {
        Due.about("Settings", "LIMIT (1 to 500; 20): people.");
        int[] limits = {1, 2, 20, 499, 500};
        for (int limit : limits) {
            BeamTurnstiles x = new BeamTurnstiles();
            x.set(2, limit);
            x.correct(limit - 1);
            for (int more = 0; more < 3; more++) {
                Due.events(x, 3, "oioi");
                Due.due("people by LIMIT " + limit, x.count(4), limit + more);
                Due.due("alarms by LIMIT " + limit, x.count(6), more);
            }
        }
        Due.due("LIMIT at first", new BeamTurnstiles().count(2), 20);
    }

    private static void sixGates() {
        Due.about("Gates, beams",
            "There are 6 gates, 0 to 5. Each has an outer beam and an inner one, each free or cut (free at "
            + "first).");
        BeamTurnstiles x = new BeamTurnstiles();
        for (int gate = 0; gate < 6; gate++) {
            Due.due("free at first", x.gate(gate, 0), 0);
            Due.due("outer, gate " + gate, x.event(gate, 0), 1);
            Due.due("both, gate " + gate, x.event(gate, 2), 3);
            Due.due("inner, gate " + gate, x.event(gate, 1), 0);
            Due.due("lost at gate " + gate, x.gate(gate, 8), 1);
            Due.due("lost at all", x.count(11), gate + 1);
        }
    }

    private static void ticksFromZero() {
        Due.about("Gates, beams", "Ticks are counted from 0.");
        BeamTurnstiles x = new BeamTurnstiles();
        Due.due("ticks", x.count(3), 0);
        Due.events(x, 2, "oio");
        Due.due("began at 0, which is not NONE", x.gate(2, 1), 0);
        Due.events(x, 2, "i");
        Due.due("ended at 0, which is not NONE", x.gate(2, 12), 0);
        Due.due("took 0", x.mean(2), 0);
    }

    private static void beginningAndEnd() {
        Due.about("Passages",
            "A passage begins when the look of a gate comes to be another one than 0, and it ends when it is 0 "
            + "again.");
        for (String way : WAYS) {
            BeamTurnstiles x = new BeamTurnstiles();
            for (int k = 0; k < way.length(); k++) {
                Due.due(way + " under way ahead of " + k, x.count(15), k == 0 ? 0 : 16);
                Due.due(way + " began ahead of " + k, x.gate(4, 1), k == 0 ? NONE : 0);
                Due.due(way + " passages ahead of " + k, ended(x, 4), 0);
                Due.events(x, 4, way.substring(k, k + 1));
            }
            Due.due(way + " under way", x.count(15), 0);
            Due.due(way + " began", x.gate(4, 1), NONE);
            Due.due(way + " passages", ended(x, 4), 1);
        }
    }

    private static int ended(BeamTurnstiles x, int gate) {
        return x.gate(gate, 5) + x.gate(gate, 6) + x.gate(gate, 7) + x.gate(gate, 8);
    }

    private static void beginningAnew() {
        Due.about("Passages", "It has a place, 0 when it begins from the look 0, and is sure at first.");
        for (String way : WAYS) {
            BeamTurnstiles x = new BeamTurnstiles();
            x.pass(7);
            Due.events(x, 4, way);
            x.pass(4);
            Due.events(x, 4, "o");
            Due.due("place behind " + way, x.gate(4, 2), 5);
            Due.due("sure behind " + way, x.gate(4, 3), 1);
            Due.due("began behind " + way, x.gate(4, 1), 11);
            Due.events(x, 4, "oi");
            Due.due("place behind " + way + ", the other way", x.gate(4, 2), 3);
        }
        BeamTurnstiles y = Due.after("0oio;.5");
        y.clear(0);
        Due.events(y, 0, "i");
        Due.due("place behind clear()", y.gate(0, 2), 3);
        Due.due("sure behind clear()", y.gate(0, 3), 1);
        Due.due("began behind clear()", y.gate(0, 1), 5);
    }

    private static void roundTheRing() {
        Due.about("Passages", "If one beam changes, the look becomes the next one in the ring of 0, 1, 2 and 3, "
            + "and the place 1 more, or the one before in this ring, and the place 1 less.");
        // Up, down and up again, and the look 0 at each end: from 3 on to 0, and from 0 back to 3.
        places("oioi", 1, 5, 2, 6, 3, 7, 0, NONE);
        places("ioio", 3, 3, 2, 2, 1, 1, 0, NONE);
        places("oiooiii", 1, 5, 2, 6, 3, 7, 2, 6, 1, 5, 2, 6, 1, 5);
        places("ioiiooo", 3, 3, 2, 2, 1, 1, 2, 2, 3, 3, 2, 2, 3, 3);
        places("oooi", 1, 5, 0, NONE, 1, 5, 2, 6);
        places("iiio", 3, 3, 0, NONE, 3, 3, 2, 2);
        places("oii", 1, 5, 2, 6, 1, 5);
        places("ioo", 3, 3, 2, 2, 3, 3);
    }

    /** Behind each letter the look, and what gate() tells of the place. */
    private static void places(String letters, int... due) {
        BeamTurnstiles x = new BeamTurnstiles();
        for (int k = 0; k < letters.length(); k++) {
            Due.due(letters + ", look " + k, x.event(5, "oib".indexOf(letters.charAt(k))), due[2 * k]);
            Due.due(letters + ", place " + k, x.gate(5, 2), due[2 * k + 1]);
        }
    }

    private static void unsureFromThenOn() {
        Due.about("Passages", "If both change at once, the passage is unsure from then on");
        BeamTurnstiles x = Due.after("1oio;1b;1b");
        Due.due("look", x.gate(1, 0), 3);
        String letters = "oiiobo";
        for (int k = 0; k < letters.length() && x.gate(1, 0) != 0; k++) {
            Due.due("sure ahead of " + k, x.gate(1, 3), 0);
            Due.due("place ahead of " + k, x.gate(1, 2), NONE);
            Due.events(x, 1, letters.substring(k, k + 1));
        }
        Due.due("lost", x.gate(1, 8), 1);
        Due.due("nothing else", ended(x, 1), 1);
    }

    private static void unsureFromTheBeginning() {
        Due.about("Passages", "(also one that begins by that)");
        BeamTurnstiles x = new BeamTurnstiles();
        Due.due("look", x.event(1, 2), 2);
        Due.due("sure", x.gate(1, 3), 0);
        Due.due("place", x.gate(1, 2), NONE);
        Due.due("began", x.gate(1, 1), 0);
        Due.due("another gate is sure", x.event(2, 0) + x.gate(2, 3), 2);
    }

    private static void ends() {
        Due.about("Passages", "When a passage ends, it is: lost, if it is unsure; otherwise in, if its place is 4; "
            + "out, if it is -4; turned back, if it is 0.");
        endsBy("oioi", 5);
        endsBy("ioio", 6);
        endsBy("oo", 7);
        endsBy("ii", 7);
        endsBy("oiio", 7);
        endsBy("iooi", 7);
        endsBy("oiooio", 7);
        endsBy("ioiioi", 7);
        // Unsure, whatever the place at the end: 4, -4, 0, or one that no sure passage ends at.
        endsBy("oiobbi", 8);
        endsBy("ioibbo", 8);
        endsBy("obbo", 8);
        endsBy("bb", 8);
        endsBy("oib", 8);
        endsBy("iob", 8);
        endsBy("oiobioi", 8);
        endsBy("oiobiobioi", 8);
    }

    private static void endsBy(String letters, int kind) {
        BeamTurnstiles x = new BeamTurnstiles();
        Due.events(x, 2, letters);
        for (int what = 5; what < 9; what++) {
            Due.due(letters + ": gate(2, " + what + ")", x.gate(2, what), what == kind ? 1 : 0);
        }
        Due.due(letters + ": people", x.count(4), kind == 5 ? 1 : 0);
        Due.due(letters + ": odd", x.count(7), kind == 6 ? 1 : 0);
    }

    private static void neverBelowZero() {
        Due.about("Passages", "one that is out 1 less, but never below 0: then it is odd as well.");
        BeamTurnstiles x = new BeamTurnstiles();
        x.correct(2);
        int[] people = {1, 0, 0, 0};
        int[] odd = {0, 0, 1, 2};
        for (int k = 0; k < people.length; k++) {
            Due.events(x, k, "ioio");
            Due.due("people", x.count(4), people[k]);
            Due.due("odd", x.count(7), odd[k]);
            Due.due("out as well", x.count(9), k + 1);
        }
        Due.events(x, 0, "oioi");
        Due.due("one in from 0", x.count(4), 1);
        Due.due("odd yet", x.count(7), 2);
    }

    private static void ticksOfAPassage() {
        Due.about("Passages", "A passage takes as many ticks as have gone by from its beginning to its end.");
        String[] texts = {"0oioi", "0o;.1;0ioi", "0oio;.1;0i", "0o;.1;0i;.2;0o;.3;0i", ".9;0i;.99;0oio;.9",
            "0oo;.9;0oioi", "0o;.5;1o;.5;0ioi"};
        int[] ticks = {0, 1, 1, 6, 99, 0, 10};
        for (int k = 0; k < texts.length; k++) {
            Due.due("ticks by " + texts[k], Due.after(texts[k]).gate(0, 11), ticks[k]);
        }
        BeamTurnstiles x = Due.atTick(99000);
        Due.events(x, 0, "o");
        x.pass(999);
        Due.events(x, 0, "ioi");
        Due.due("999 ticks up to the end", x.gate(0, 11), 999);
        Due.due("ended", x.gate(0, 12), 99999);
    }

    private static void slowBySettingOfTheEnd() {
        Due.about("Passages", "It is slow if it takes SLOW ticks or more.");
        BeamTurnstiles x = Due.after("0o;1o;.10");
        x.set(0, 10);
        Due.events(x, 0, "o");
        x.set(0, 11);
        Due.events(x, 1, "o");
        Due.due("10 of 10", x.gate(0, 9), 1);
        Due.due("10 of 11", x.gate(1, 9), 0);
        Due.due("of all", x.count(12), 1);
    }

    private static void tailsBehindOthers() {
        Due.about("Passages", "if the latest passage before it at this gate that was in or out was the same way as it");
        String[] texts = {"0oioi", "0ioio", "0oioi;0oioi", "0ioio;0ioio", "0oioi;0ioio", "0ioio;0oioi",
            "0oioi;0oo;0ii;0bb;0oioi", "0ioio;0oo;0ii;0bb;0ioio", "0oioi;0ioio;0oioi", "0ioio;0oioi;0ioio",
            "0oioi;1oioi", "0oioi;1ioio;0oioi", "0oioi;0ioio;0ioio", "0oo;0oioi", "0bb;0ioio", "0oioi;0oioi;0oioi"};
        int[] tails = {0, 0, 1, 1, 0, 0, 1, 1, 0, 0, 0, 1, 1, 0, 0, 2};
        for (int k = 0; k < texts.length; k++) {
            Due.due("tails by " + texts[k], Due.after(texts[k]).count(13), tails[k]);
        }
        BeamTurnstiles x = Due.after("0oioi;0oio");
        x.clear(0);
        Due.events(x, 0, "oioi");
        Due.due("one that is cleared is no way", x.gate(0, 10), 1);
    }

    private static void tailsByBeginningAndEnd() {
        Due.about("Passages", "and its beginning less the end of that is at most TAIL.");
        String[] texts = {"0oioi;.3;0o;.9;0ioi", "0oioi;.4;0o;.9;0ioi", "0o;.9;0ioi;.3;0oioi", "0o;.9;0ioi;.4;0oioi",
            "0oioi;.3;0oo;.1;0oioi", "0oioi;.2;0oo;.1;0oioi", ".50;0oioi;.3;0oioi"};
        int[] tails = {1, 0, 1, 0, 0, 1, 1};
        for (int k = 0; k < texts.length; k++) {
            Due.due("tails by " + texts[k], Due.after(texts[k]).gate(0, 10), tails[k]);
        }
        BeamTurnstiles x = Due.after("0oioi;1oioi;.7;0o;1o");
        x.set(1, 7);
        Due.events(x, 0, "ioi");
        x.set(1, 6);
        Due.events(x, 1, "ioi");
        Due.due("TAIL 7 when it ends", x.gate(0, 10), 1);
        Due.due("TAIL 6 when it ends", x.gate(1, 10), 0);
    }

    private static void blockedByTicks() {
        Due.about("Passages", "A gate is blocked if a passage is under way that began SLOW ticks ago, or longer.");
        BeamTurnstiles x = Due.after(".5;0o;.29");
        Due.due("29", x.gate(0, 4), 0);
        Due.due("mask", x.count(14), 0);
        x.pass(1);
        Due.due("30", x.gate(0, 4), 1);
        Due.due("mask", x.count(14), 1);
        x.pass(999);
        Due.due("1029", x.gate(0, 4), 1);
        x.event(0, 1);
        Due.due("other look, same passage", x.gate(0, 4), 1);
        Due.events(x, 0, "oi");
        Due.due("no passage", x.gate(0, 4), 0);
        x.event(0, 0);
        Due.due("a new one", x.gate(0, 4), 0);
        x.set(0, 1);
        Due.due("0 of 1", x.gate(0, 4), 0);
    }

    private static void blockedInAnyLook() {
        Due.about("Passages", "A gate is blocked if a passage is under way");
        BeamTurnstiles x = Due.after("0o;1oi;2i;3b;4ob;.30");
        Due.due("all but one that is free", x.count(14), 31);
        Due.due("free", x.gate(5, 4), 0);
    }

    private static void alarmsBehindIn() {
        Due.about("Passages",
            "Whenever there are more people inside than LIMIT behind a passage that is in, there is an alarm "
            + "(also if there were more already).");
        BeamTurnstiles x = new BeamTurnstiles();
        x.correct(18);
        int[] alarms = {0, 0, 1, 2, 3};
        for (int k = 0; k < alarms.length; k++) {
            Due.events(x, k, "oioi");
            Due.due("alarms by " + x.count(4), x.count(6), alarms[k]);
        }
        x.correct(999);
        Due.events(x, 0, "oioi");
        Due.due("far above", x.count(6), 4);
        x.correct(19);
        Due.events(x, 0, "oioi");
        Due.due("20 again", x.count(6), 4);
    }

    private static void noOtherAlarms() {
        Due.about("Passages", "behind a passage that is in");
        BeamTurnstiles x = new BeamTurnstiles();
        x.correct(500);
        Due.events(x, 0, "ioio");
        Due.due("out", x.count(6), 0);
        Due.events(x, 0, "oo");
        Due.due("turned back", x.count(6), 0);
        Due.events(x, 0, "bb");
        Due.due("lost", x.count(6), 0);
        Due.events(x, 0, "oio");
        x.clear(0);
        Due.due("cleared", x.count(6), 0);
        x.set(2, 1);
        Due.due("a lower LIMIT", x.count(6), 0);
        Due.events(x, 0, "oioi");
        Due.due("in", x.count(6), 1);
    }
}
