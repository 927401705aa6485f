import java.util.function.Consumer;

/** The sentences ahead of the promises, "What it is" and "Terms". TermsBoundsTest has those that name a bound. */
final class TermsTest {
    private static final int NO_SUCH = -1, BAD_VALUE = -2, BAD_TEXT = -3, TOO_MANY = -4, NOT_POSSIBLE = -5, NONE = -6;

    private TermsTest() {
    }

    public static void main(String[] args) {
        steps();
        countsOfADay();
        foreseenAndKept();
        fiveHundredAndTwelveEvents();
        fiveHundredAndTwelveOfOtherCalls();
        theMostPassages();
        firstErrorCounts();
        noneIsNoError();
        numberedFromZero();
        lookOfBothBeams();
        eventsOfBeams();
        noOtherPlace();
        oneMoreInside();
        neitherInNorOutIsATail();
        callsThatChange();
        callsOfTexts();
        callsOfUndoAndSaving();
        Due.end("TermsTest");
    }

    private static void steps() {
        Due.about("What it is",
            "Turnstiles that count by beams cut in order: gates with an outer and an inner beam, ticks, beams "
            + "that are cut and freed, steps by which somebody comes through a gate, in or out, or turns back, "
            + "beams that change both at once, so that nobody knows the way, gates that are blocked for too long, "
            + "passages that follow one another too soon, people inside, a limit above which gates alarm");
        BeamTurnstiles x = new BeamTurnstiles();
        x.set(BeamTurnstiles.LIMIT, 1);
        Due.due("the outer beam is cut", x.event(0, 0), 1);
        Due.due("the inner one, too", x.event(0, 1), 2);
        Due.due("the outer one is free", x.event(0, 0), 3);
        Due.due("somebody is in", x.event(0, 1) + x.count(4), 1);
        Due.events(x, 0, "ioio");
        Due.due("the other order: out", x.gate(0, 6), 1);
        Due.due("nobody inside", x.count(4), 0);
        Due.events(x, 1, "oiio");
        Due.due("turned back", x.gate(1, 7), 1);
        Due.events(x, 2, "bb");
        Due.due("nobody knows the way", x.gate(2, 8), 1);
        x.event(3, 1);
        Due.due("not for too long yet", x.pass(29), 0);
        Due.due("blocked", x.pass(1), 1);
        Due.events(x, 4, "oioioioi");
        Due.due("too soon", x.gate(4, 10), 1);
        Due.due("people inside", x.count(4), 2);
        Due.due("above the limit", x.count(6), 1);
    }

    private static void countsOfADay() {
        Due.about("What it is", "counts by gate, how long passages take, the busiest gate");
        BeamTurnstiles x = Due.after("0oio;.4;0i;5ioi;.7;5o;5oio;.2;5i;1oo");
        int[] through = {1, 0, 0, 0, 0, 2};
        int[] means = {4, NONE, NONE, NONE, NONE, 4};
        for (int gate = 0; gate < 6; gate++) {
            Due.due("through gate " + gate, x.gate(gate, 5) + x.gate(gate, 6), through[gate]);
            Due.due("how long at gate " + gate, x.mean(gate), means[gate]);
        }
        Due.due("the busiest", x.busiest(), 5);
    }

    private static void foreseenAndKept() {
        Due.about("What it is", "what a row of events would bring, events that are missing for a gate to be free, "
            + "corrections by hand, events that are read from texts, undo, and saved states.");
        BeamTurnstiles x = new BeamTurnstiles();
        x.event(0, 0);
        Due.due("missing to be in", x.eventsTo(0, 0), 3);
        Due.due("missing to be back", x.eventsTo(0, 2), 1);
        Due.putText(x, "0ioi;1oioi");
        Due.due("would be in", x.ifRead(0), 2);
        Due.due("read", x.read(), 2);
        Due.due("corrected", x.correct(7), 2);
        Due.due("saved", x.save(0), 7);
        Due.due("undone", x.undo() + x.count(4), 4);
        Due.due("restored", x.restore(0), 7);
    }

    private static void fiveHundredAndTwelveEvents() {
        Due.about("What it is", "An object is used for at most 512 calls after it has been made");
        BeamTurnstiles x = new BeamTurnstiles();
        for (int call = 1; call < 512; call++) {
            Due.due("call " + call, x.event(3, 0), call % 2);
        }
        Due.due("turned back, as the last call tells", x.gate(3, 7), 255);
        BeamTurnstiles y = new BeamTurnstiles();
        int[] looks = {1, 2, 3, 0};
        for (int call = 0; call < 508; call++) {
            Due.due("call " + (call + 1), y.event(3, call % 2), looks[call % 4]);
        }
        Due.due("in, as many times as can be", y.count(4), 127);
    }

    private static void fiveHundredAndTwelveOfOtherCalls() {
        BeamTurnstiles x = new BeamTurnstiles();
        BeamTurnstiles y = new BeamTurnstiles();
        BeamTurnstiles z = new BeamTurnstiles();
        for (int call = 0; call < 511; call++) {
            Due.due("ticks, call " + call, x.pass(999), call < 100 ? 0 : TOO_MANY);
            Due.due("people, call " + call, y.correct(call), Math.max(0, call - 1));
            Due.due("characters, call " + call, z.put('0'), call < 60 ? call + 1 : TOO_MANY);
        }
        Due.due("ticks", x.count(3), 99900);
        Due.due("people", y.count(4), 510);
        Due.due("characters", z.count(16), 60);
    }

    /** By long texts, 9 calls for each. */
    private static void theMostPassages() {
        BeamTurnstiles x = new BeamTurnstiles();
        BeamTurnstiles y = new BeamTurnstiles();
        for (int texts = 1; texts <= 56; texts++) {
            Due.due("ended by text " + texts, Due.readText(x, "2" + "b".repeat(58)), 29);
            Due.due("in by text " + texts, Due.readText(y, "0" + "oioi".repeat(14)), 14);
        }
        Due.due("lost", x.gate(2, 8), 56 * 29);
        Due.due("people", y.count(4), 56 * 14);
        Due.due("alarms", y.count(6), 56 * 14 - 20);
        Due.due("tails", y.count(13), 56 * 14 - 1);
    }

    private static void firstErrorCounts() {
        Due.about("CONVENTIONS",
            "it names its errors in the order in which they are checked, and the first one that applies is returned.");
        BeamTurnstiles x = new BeamTurnstiles();
        Due.due("no gate, no beam", x.event(6, 3), NO_SUCH);
        Due.due("no gate, nothing told", x.gate(6, 13), NO_SUCH);
        Due.due("no gate, no passage", x.clear(6), NO_SUCH);
        Due.due("no gate, no way, no passage", x.eventsTo(6, 3), NO_SUCH);
        Due.due("no way, no passage", x.eventsTo(0, 3), BAD_VALUE);
        Due.due("no text, nothing told", x.ifRead(6), BAD_TEXT);
        Due.due("no slot, nothing saved", x.restore(2), BAD_VALUE);
        Due.due("no setting, no value", x.set(3, 501), BAD_VALUE);
        Due.putText(x, "x".repeat(60));
        Due.due("no characters, no room", x.put(0), BAD_VALUE);
        BeamTurnstiles y = Due.atTick(99999);
        Due.due("no ticks that can be, too many", y.pass(1000), BAD_VALUE);
    }

    private static void noneIsNoError() {
        Due.about("CONVENTIONS", "NONE (-6) is not an error; it is returned only if no error applies.");
        BeamTurnstiles x = new BeamTurnstiles();
        Due.due("nothing under way, no gate", x.gate(6, 1), NO_SUCH);
        Due.due("nobody through, no gate", x.gate(-1, 12), NO_SUCH);
        Due.due("nobody through, no gate", x.mean(6), NO_SUCH);
        Due.due("cannot end out, no gate", x.eventsTo(6, 1), NO_SUCH);
        Due.due("cannot end out, no passage", x.eventsTo(0, 1), NOT_POSSIBLE);
        x.event(0, 2);
        Due.due("cannot end out, unsure", x.eventsTo(0, 1), NOT_POSSIBLE);
        x.event(1, 0);
        Due.due("cannot end out, no way", x.eventsTo(1, 3), BAD_VALUE);
        Due.due("cannot end out", x.eventsTo(1, 1), NONE);
        Due.due("no place", x.gate(0, 2), NONE);
        Due.putText(x, "0b");
        Due.due("no fault", x.fault(), NONE);
        Due.due("so it can be read", x.read(), 1);
    }

    private static void numberedFromZero() {
        Due.about("CONVENTIONS", "Everything is numbered from 0.");
        BeamTurnstiles x = new BeamTurnstiles();
        Due.due("setting 0", x.set(0, 31), 30);
        Due.due("gate 0, beam 0", x.event(0, 0), 1);
        Due.due("what 0", x.gate(0, 0), 1);
        Due.due("number 0", x.count(0), 31);
        Due.due("bit 0", x.count(15), 1);
        Due.due("way 0", x.eventsTo(0, 0), 3);
        Due.due("slot 0", x.save(0), 0);
        Due.due("slot 0", x.restore(0), 0);
        x.put('x');
        Due.due("character 0", x.fault(), 0);
        x.wipe();
        Due.putText(x, "0ioi");
        Due.due("what 0", x.ifRead(0), 1);
        x.read();
        Due.due("gate 0", x.busiest(), 0);
        Due.due("tick 0", x.gate(0, 12), 0);
    }

    /** Row by row: the changes of the outer beam, those of the inner one, and the look then. */
    private static void lookOfBothBeams() {
        Due.about("Gates, beams", "Its look is 0 if both are free, 1 if the outer one alone is cut, 2 if both are, "
            + "3 if the inner one alone is.");
        int[][] rows = {{0, 0, 0}, {1, 0, 1}, {1, 1, 2}, {0, 1, 3}, {2, 1, 3}, {3, 2, 1}, {2, 2, 0}, {3, 3, 2}};
        for (int[] row : rows) {
            for (int outerFirst = 0; outerFirst < 2; outerFirst++) {
                BeamTurnstiles x = new BeamTurnstiles();
                String outer = "o".repeat(row[0]);
                String inner = "i".repeat(row[1]);
                Due.events(x, 4, outerFirst == 1 ? outer + inner : inner + outer);
                Due.due("look by " + outer + inner, x.gate(4, 0), row[2]);
                Due.due("look of the next gate", x.gate(5, 0), 0);
            }
        }
    }

    private static void eventsOfBeams() {
        Due.about("Gates, beams", "An event changes one beam of a gate, or both at once, from free to cut, or back.");
        for (String before : new String[] {"", "o", "oi", "i"}) {
            for (int beam = 0; beam < 3; beam++) {
                BeamTurnstiles x = new BeamTurnstiles();
                Due.events(x, 1, before);
                String then = toggled(before, beam);
                Due.due("cut: " + before + ", then beam " + beam, x.event(1, beam), lookBehind(then));
                Due.due("back again", x.event(1, beam), lookBehind(before));
            }
        }
    }

    /** The letters of the beams that are cut then. */
    private static String toggled(String cut, int beam) {
        boolean outer = cut.contains("o") != (beam != 1);
        boolean inner = cut.contains("i") != (beam != 0);
        return (outer ? "o" : "") + (inner ? "i" : "");
    }

    private static int lookBehind(String cut) {
        return switch (cut) {
            case "" -> 0;
            case "o" -> 1;
            case "oi" -> 2;
            default -> 3;
        };
    }

    /** All orders of events of one beam, as far as 12: whatever ends is in, out or turned back, and nothing is lost. */
    private static void noOtherPlace() {
        Due.about("Passages", "(Another place cannot be.)");
        for (int order = 0; order < 1 << 12; order++) {
            BeamTurnstiles x = new BeamTurnstiles();
            int place = 0;
            int[] ended = new int[9];
            for (int event = 0; event < 12; event++) {
                int beam = order >> event & 1;
                int look = x.gate(2, 0);
                place += beam == look % 2 ? 1 : -1;
                if (x.event(2, beam) == 0) {
                    ended[4 + place]++;
                    place = 0;
                }
            }
            Due.due(order + ": in", x.gate(2, 5), ended[8]);
            Due.due(order + ": out", x.gate(2, 6), ended[0]);
            Due.due(order + ": turned back", x.gate(2, 7), ended[4]);
            Due.due(order + ": lost", x.gate(2, 8), 0);
        }
    }

    private static void oneMoreInside() {
        Due.about("Passages", "A passage that is in makes the people inside 1 more");
        BeamTurnstiles x = new BeamTurnstiles();
        for (int people = 1; people <= 30; people++) {
            Due.events(x, people % 6, "oio");
            Due.due("not yet", x.count(4), people - 1);
            Due.events(x, people % 6, "i");
            Due.due("people", x.count(4), people);
        }
        Due.events(x, 0, "oobboiio");
        x.event(0, 0);
        x.clear(0);
        Due.due("by no other passage", x.count(4), 30);
    }

    private static void neitherInNorOutIsATail() {
        Due.about("Passages", "A passage, in or out, is a tail");
        BeamTurnstiles x = new BeamTurnstiles();
        Due.events(x, 3, "oioiioiooo");
        Due.due("in, out and turned back", x.gate(3, 5) + x.gate(3, 6) + x.gate(3, 7), 3);
        Due.events(x, 3, "oooobbbb");
        x.event(3, 0);
        x.clear(3);
        Due.due("no tail", x.gate(3, 10), 0);
        Due.events(x, 3, "ioio");
        Due.due("a tail", x.gate(3, 10), 1);
    }

    private static void callsThatChange() {
        Due.about("Texts",
            "Ahead of the calls set, event, pass, read, correct, clear the interface says: ---- changes.");
        changed("set", x -> x.set(1, 4));
        changed("event", x -> x.event(0, 1));
        changed("pass", x -> x.pass(1));
        changed("read", BeamTurnstiles::read);
        changed("correct", x -> x.correct(5));
        changed("clear", x -> x.clear(0));
    }

    private static void changed(String call, Consumer<BeamTurnstiles> made) {
        BeamTurnstiles x = Due.after("0o");
        Due.putText(x, "1o");
        String before = Whole.state(x);
        made.accept(x);
        Due.due(call + " changes something", Whole.state(x).equals(before) ? 0 : 1, 1);
        Due.due(call + " can be undone", x.count(17), 2);
    }

    private static void callsOfTexts() {
        Due.about("Texts", "Ahead of the calls put, wipe, fault the interface says: ---- texts.");
        BeamTurnstiles x = Whole.busy();
        String state = Whole.state(x);
        Due.append(x, "o");
        Due.same("the state behind put()", Whole.state(x), state);
        Due.due("fault", x.fault(), 5);
        Due.same("the state behind fault()", Whole.state(x), state);
        Due.due("wipe", x.wipe(), 6);
        Due.same("the state behind wipe()", Whole.state(x), state);
        Due.due("changes", x.count(17), 6);
        Due.due("what is saved", x.restore(0), Whole.busy().restore(0));
    }

    private static void callsOfUndoAndSaving() {
        Due.about("Texts", "Ahead of the calls undo, save, restore the interface says: ---- undo, saving.");
        BeamTurnstiles x = new BeamTurnstiles();
        Due.putText(x, "3o;.9");
        x.correct(8);
        Due.due("save", x.save(1), 8);
        Due.due("saving can't be undone", x.undo() + x.count(4), 0);
        Due.due("restore", x.restore(1), 8);
        Due.due("restoring can", x.undo() + x.count(4), 0);
        Due.due("the text is left", x.count(16), 5);
        Due.due("and its events", x.read() + x.count(15), 8);
    }
}
