/** Promises 8 to 11: gate, count, mean, busiest. */
final class TellingTest {
    private static final int NO_SUCH = -1, BAD_VALUE = -2, NONE = -6;
    private static final int[] WRONG = {-1, Integer.MIN_VALUE, Integer.MAX_VALUE};

    private TellingTest() {
    }

    public static void main(String[] args) {
        gates();
        gatesUnderWay();
        looksOfGates();
        tailsOfGates();
        wrongGates();
        counts();
        countsOfTheHead();
        alarmsAndOddOnes();
        masks();
        wrongCounts();
        means();
        busiestGate();
        nothingChanges();
        Due.end("TellingTest");
    }

    private static void told(BeamTurnstiles x, int gate, int... due) {
        for (int what = 0; what < due.length; what++) {
            Due.due("gate " + gate + " " + what, x.gate(gate, what), due[what]);
        }
    }

    private static void gates() {
        Due.about("Promise 8", "Returns something about a gate.");
        BeamTurnstiles x = Due.after(".5;3oioi;.3;3oio;.40;3i;3ioio;3oo;3bb;3bb");
        told(x, 3, 0, NONE, NONE, NONE, 0, 2, 1, 1, 2, 1, 1, 40, 48);
        told(x, 2, 0, NONE, NONE, NONE, 0, 0, 0, 0, 0, 0, 0, 0, NONE);
        x.event(3, 0);
        x.pass(7);
        x.clear(3);
        told(x, 3, 0, NONE, NONE, NONE, 0, 2, 1, 1, 3, 1, 1, 40, 48);
    }

    private static void gatesUnderWay() {
        Due.about("Promise 8", "Returns something about a gate.");
        BeamTurnstiles x = Due.after(".7;0o;1i;2b;4oio;5ioi");
        told(x, 0, 1, 7, 5, 1, 0, 0, 0, 0, 0, 0, 0, 0, NONE);
        told(x, 1, 3, 7, 3, 1, 0, 0, 0, 0, 0, 0, 0, 0, NONE);
        told(x, 2, 2, 7, NONE, 0, 0, 0, 0, 0, 0, 0, 0, 0, NONE);
        told(x, 4, 3, 7, 7, 1, 0, 0, 0, 0, 0, 0, 0, 0, NONE);
        told(x, 5, 1, 7, 1, 1, 0, 0, 0, 0, 0, 0, 0, 0, NONE);
        x.pass(29);
        Due.due("not blocked", x.gate(2, 4), 0);
        x.event(0, 1);
        x.pass(1);
        told(x, 0, 2, 7, 6, 1, 1);
        told(x, 2, 2, 7, NONE, 0, 1);
        x.event(0, 2);
        told(x, 0, 0, NONE, NONE, NONE, 0, 0, 0, 0, 1, 1);
    }

    private static void looksOfGates() {
        Due.about("Promise 8", "what: 0 its look");
        BeamTurnstiles x = new BeamTurnstiles();
        int[] looks = {1, 3, 2};
        for (int gate = 0; gate < 6; gate++) {
            Due.due("free", x.gate(gate, 0), 0);
            Due.due("event", x.event(gate, gate % 3), looks[gate % 3]);
            Due.due("look of gate " + gate, x.gate(gate, 0), looks[gate % 3]);
        }
        x.event(4, 0);
        Due.due("look of gate 4 then", x.gate(4, 0), 2);
        x.clear(4);
        Due.due("look of gate 4, cleared", x.gate(4, 0), 0);
    }

    private static void tailsOfGates() {
        Due.about("Promise 8", "10 tails");
        BeamTurnstiles x = Due.after("1oioi;1oioi;1oioi;4ioio;4ioio;5oioi;5ioio");
        int[] tails = {0, 2, 0, 0, 1, 0};
        for (int gate = 0; gate < 6; gate++) {
            Due.due("tails at gate " + gate, x.gate(gate, 10), tails[gate]);
        }
    }

    private static void wrongGates() {
        Due.about("Promise 8", "NO_SUCH if there is no such gate; BAD_VALUE if what is out of range.");
        BeamTurnstiles x = Due.after("5oi;.1");
        for (int wrong : WRONG) {
            Due.due("no gate", x.gate(wrong, 0), NO_SUCH);
            Due.due("no gate first", x.gate(wrong, wrong), NO_SUCH);
            Due.due("no what", x.gate(5, wrong), BAD_VALUE);
        }
        Due.due("gate 6", x.gate(6, 0), NO_SUCH);
        Due.due("what 13", x.gate(5, 13), BAD_VALUE);
        Due.due("gate 6, what 13", x.gate(6, 13), NO_SUCH);
    }

    private static void counts() {
        Due.about("Promise 9", "Returns a number.");
        BeamTurnstiles x = new BeamTurnstiles();
        x.set(2, 1);
        x.set(0, 7);
        x.set(1, 9);
        Due.readText(x, "0oioi;0oioi;1oioi;4ioio;.2;5oo;5oo;5oo;3bb;0oo");
        Due.readText(x, "2ioio;2ioio;2ioio;1o;.7;1ioi;2o;5b;.5;1bb;1o;4i;.3");
        Due.putText(x, "nonsense");
        int[] due = {7, 9, 1, 17, 1, 3, 2, 1, 4, 4, 4, 2, 1, 4, 36, 54, 8, 5};
        for (int what = 0; what < due.length; what++) {
            Due.due("count " + what, x.count(what), due[what]);
        }
        x.event(0, 0);
        Due.due("at most 6", x.count(17), 6);
        x.event(0, 0);
        Due.due("at most 6", x.count(17), 6);
    }

    private static void countsOfTheHead() {
        Due.about("Promise 9", "what: 0 to 2 the settings, 3 the ticks, 4 people inside");
        BeamTurnstiles x = new BeamTurnstiles();
        int[] due = {30, 3, 20, 0, 0};
        counted(x, due);
        for (int setting = 0; setting < 3; setting++) {
            due[setting] = 40 + setting;
            x.set(setting, due[setting]);
            counted(x, due);
        }
        due[3] = 77;
        x.pass(77);
        counted(x, due);
        due[4] = 88;
        x.correct(88);
        counted(x, due);
        due[3] = 87;
        due[4] = 89;
        Due.readText(x, ".10;2oioi");
        counted(x, due);
    }

    private static void counted(BeamTurnstiles x, int[] due) {
        for (int what = 0; what < due.length; what++) {
            Due.due("count " + what, x.count(what), due[what]);
        }
    }

    private static void alarmsAndOddOnes() {
        Due.about("Promise 9", "6 alarms so far, 7 odd ones so far");
        BeamTurnstiles x = new BeamTurnstiles();
        x.correct(19);
        String[] texts = {"0oioi", "1oioi", "2oioi;2ioio;2oioi", "3oo;3bb", "0ioio"};
        int[] alarms = {0, 1, 3, 3, 3};
        for (int k = 0; k < texts.length; k++) {
            Due.readText(x, texts[k]);
            Due.due("alarms behind " + texts[k], x.count(6), alarms[k]);
            Due.due("odd ones behind " + texts[k], x.count(7), 0);
        }
        x.correct(1);
        int[] odd = {0, 1, 2};
        for (int k = 0; k < odd.length; k++) {
            Due.readText(x, "4ioio");
            Due.due("odd ones", x.count(7), odd[k]);
            Due.due("alarms", x.count(6), 3);
        }
    }

    private static void masks() {
        Due.about("Promise 9",
            "14 gates that are blocked, as a bit mask, 15 gates with a passage under way, as a bit mask");
        BeamTurnstiles x = new BeamTurnstiles();
        for (int gate = 0; gate < 6; gate++) {
            x.event(gate, 2);
            Due.due("under way", x.count(15), (2 << gate) - 1);
            x.pass(30);
            Due.due("blocked", x.count(14), (2 << gate) - 1);
        }
        x.event(0, 2);
        Due.due("under way but for 0", x.count(15), 62);
        Due.due("blocked but for 0", x.count(14), 62);
    }

    private static void wrongCounts() {
        Due.about("Promise 9", "BAD_VALUE if what is out of range.");
        BeamTurnstiles x = new BeamTurnstiles();
        for (int wrong : WRONG) {
            Due.due("no count", x.count(wrong), BAD_VALUE);
        }
        Due.due("count 18", x.count(18), BAD_VALUE);
    }

    private static void means() {
        Due.about("Promise 10", "Returns how many ticks passages of a gate that were in or out took in the mean.");
        BeamTurnstiles x = new BeamTurnstiles();
        for (int wrong : WRONG) {
            Due.due("no gate", x.mean(wrong), NO_SUCH);
        }
        Due.due("gate 6", x.mean(6), NO_SUCH);
        Due.readText(x, "5o;.9;5o;5b;.9;5b");
        Due.due("neither in nor out", x.mean(5), NONE);
        Due.readText(x, "5oio;.5;5i");
        Due.due("5", x.mean(5), 5);
        Due.readText(x, "5ioi;.2;5o");
        Due.due("7 by 2", x.mean(5), 3);
        Due.readText(x, "5oioi");
        Due.due("7 by 3", x.mean(5), 2);
        Due.readText(x, "5ioio;5ioio;5ioio;5ioio;5ioio");
        Due.due("7 by 8", x.mean(5), 0);
        Due.due("another gate", x.mean(4), NONE);
    }

    private static void busiestGate() {
        Due.about("Promise 11", "Finds the gate with the most passages that were in or out; of several the lowest.");
        BeamTurnstiles x = Due.after("0oo;0bb;1o");
        Due.due("none", x.busiest(), NONE);
        Due.readText(x, "5ioio");
        Due.due("5", x.busiest(), 5);
        Due.readText(x, "3oioi");
        Due.due("the lower one", x.busiest(), 3);
        Due.readText(x, "5oioi");
        Due.due("5 again, by in and out", x.busiest(), 5);
        Due.readText(x, "2ioio;2ioio;0oo;0oo;0oo");
        Due.due("2", x.busiest(), 2);
        Due.readText(x, "4ioio;4oioi;4oioi");
        Due.due("4", x.busiest(), 4);
        Due.readText(x, "0oioi;0oioi;0oioi");
        Due.due("0, as the lowest", x.busiest(), 0);
    }

    private static void nothingChanges() {
        Due.about("Texts",
            "Ahead of the calls gate, count, mean, busiest the interface says: ---- what there is; nothing "
            + "changes.");
        BeamTurnstiles x = Due.after("0oi;1oioi;.40");
        int before = x.count(17);
        for (int what = 0; what < 13; what++) {
            x.gate(0, what);
        }
        x.mean(1);
        x.busiest();
        Due.due("nothing recorded", x.count(17), before);
        Due.due("still", x.gate(0, 0), 2);
    }
}
