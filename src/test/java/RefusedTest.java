import java.util.ArrayList;
import java.util.List;
import java.util.Map;
import java.util.TreeMap;
import java.util.TreeSet;
import java.util.function.Function;
import java.util.function.Supplier;
import java.util.function.ToLongFunction;

/**
 * "A call that returns an error changes nothing.", nor does one that only tells something. Every such call is made on
 * one of two objects that have been treated alike; whatever is asked or done then, both have to answer alike.
 */
final class RefusedTest {
    private static final int MIN = Integer.MIN_VALUE, MAX = Integer.MAX_VALUE;
    private static final int[] BESIDE = {-1, 0, 1, 2, 3, 5, 6, 12, 13, 17, 18, 50, 51, 200, 201, 500, 501, 999, 1000,
        MIN, MAX};

    // What the document says of the calls that only tell something; nothing for the others.
    private static final String[] ACTS = {};
    private static final String[] TELLS = {"Texts",
        "Ahead of the calls gate, count, mean, busiest the interface says: ---- what there is; nothing changes."};
    private static final String[] WHAT_IF = {"Texts",
        "Ahead of the calls ifRead, eventsTo, untilBlocked the interface says: ---- what if; nothing changes."};
    private static final String[] FAULT = {"Promise 17", "Returns the fault of the pad"};

    private record Call(String[] ahead, String name, ToLongFunction<BeamTurnstiles> made) {
        boolean isRefused(BeamTurnstiles x) {
            long answer = made.applyAsLong(x);
            return answer < 0 && answer != BeamTurnstiles.NONE;
        }

        boolean tells() {
            return ahead.length != 0;
        }

        String method() {
            return name.substring(0, name.indexOf('('));
        }
    }

    private RefusedTest() {
    }

    public static void main(String[] args) {
        errorsByName();
        int refused = 0;
        refused += refusedOn("new", BeamTurnstiles::new);
        refused += refusedOn("busy", Whole::busy);
        refused += refusedOn("full", Whole::full);
        Due.due("more than 900 calls are refused", refused > 900 ? 1 : 0, 1);
        Due.end("RefusedTest");
    }

    /** Every code below 0 that a method answers, NONE among them: those that its promise names, and no other. */
    private static void errorsByName() {
        Due.about("CONVENTIONS", "A method that fails returns one of the error codes NO_SUCH (-1), BAD_VALUE (-2), "
            + "BAD_TEXT (-3), TOO_MANY (-4) and NOT_POSSIBLE (-5)");
        Map<String, TreeSet<Long>> codes = new TreeMap<>();
        for (Call call : calls()) {
            TreeSet<Long> own = codes.computeIfAbsent(call.method(), method -> new TreeSet<>());
            for (BeamTurnstiles x : List.of(new BeamTurnstiles(), Whole.busy(), Whole.full())) {
                long answer = call.made.applyAsLong(x);
                if (answer < 0) {
                    own.add(answer);
                }
            }
        }
        Due.same("codes by method", codes.toString(),
            "{busiest=[-6], clear=[-5, -1], correct=[-2], count=[-2], event=[-2, -1], eventsTo=[-6, -5, -2, -1], "
            + "fault=[-6], gate=[-6, -2, -1], ifRead=[-3, -2], mean=[-6, -1], pass=[-4, -2], put=[-4, -2], "
            + "read=[-3], restore=[-5, -2], save=[-2], set=[-2], undo=[-5], untilBlocked=[-6], wipe=[]}");
    }

    private static int refusedOn(String name, Supplier<BeamTurnstiles> makes) {
        List<String> due = new ArrayList<>();
        for (Function<BeamTurnstiles, String> look : looks()) {
            due.add(look.apply(makes.get()));
        }
        int refused = 0;
        for (Call call : calls()) {
            boolean isRefused = call.isRefused(makes.get());
            refused += isRefused ? 1 : 0;
            if (isRefused) {
                Due.about("CONVENTIONS", "A call that returns an error changes nothing.");
            } else if (call.tells()) {
                Due.about(call.ahead[0], call.ahead[1]);
            }
            if (isRefused || call.tells()) {
                changesNothing(name, call, makes, due);
            }
        }
        return refused;
    }

    private static void changesNothing(String name, Call call, Supplier<BeamTurnstiles> makes, List<String> due) {
        List<Function<BeamTurnstiles, String>> looks = looks();
        for (int k = 0; k < looks.size(); k++) {
            BeamTurnstiles x = makes.get();
            call.made.applyAsLong(x);
            Due.same(name + ", behind " + call.name + ", look " + k, looks.get(k).apply(x), due.get(k));
        }
    }

    /** The state, the other answers, the history, the slots, the latest ways, and what stands on the pad. */
    private static List<Function<BeamTurnstiles, String>> looks() {
        List<Function<BeamTurnstiles, String>> looks = new ArrayList<>();
        looks.add(x -> Whole.state(x) + Whole.answers(x));
        for (int times = 1; times <= 7; times += 2) {
            int undone = times;
            looks.add(x -> undoneBy(x, undone));
        }
        looks.add(x -> x.restore(0) + " " + Whole.state(x));
        looks.add(x -> x.restore(1) + " " + Whole.state(x));
        looks.add(Whole::tailsThen);
        looks.add(x -> x.put('o') + " " + x.fault() + " " + x.read() + " " + Whole.state(x));
        return looks;
    }

    private static String undoneBy(BeamTurnstiles x, int times) {
        StringBuilder all = new StringBuilder();
        for (int k = 0; k < times; k++) {
            all.append(x.undo()).append(' ');
        }
        return all + Whole.state(x) + Whole.answers(x);
    }

    private static List<Call> calls() {
        List<Call> calls = new ArrayList<>();
        for (int a : BESIDE) {
            calls.add(new Call(ACTS, "pass(" + a + ")", x -> x.pass(a)));
            calls.add(new Call(ACTS, "correct(" + a + ")", x -> x.correct(a)));
            calls.add(new Call(ACTS, "clear(" + a + ")", x -> x.clear(a)));
            calls.add(new Call(TELLS, "count(" + a + ")", x -> x.count(a)));
            calls.add(new Call(TELLS, "mean(" + a + ")", x -> x.mean(a)));
            calls.add(new Call(WHAT_IF, "ifRead(" + a + ")", x -> x.ifRead(a)));
            calls.add(new Call(ACTS, "save(" + a + ")", x -> x.save(a)));
            calls.add(new Call(ACTS, "restore(" + a + ")", x -> x.restore(a)));
            addPairs(calls, a);
        }
        for (long a : new long[] {0, 32, 33, 126, 127, 0x6F006F, Due.packed("oooooooo"), Due.packed("ooooooo "), -1,
            Long.MIN_VALUE, Long.MAX_VALUE}) {
            calls.add(new Call(ACTS, "put(" + a + ")", x -> x.put(a)));
        }
        calls.add(new Call(ACTS, "read()", BeamTurnstiles::read));
        calls.add(new Call(ACTS, "undo()", BeamTurnstiles::undo));
        calls.add(new Call(ACTS, "wipe()", BeamTurnstiles::wipe));
        calls.add(new Call(TELLS, "busiest()", BeamTurnstiles::busiest));
        calls.add(new Call(WHAT_IF, "untilBlocked()", BeamTurnstiles::untilBlocked));
        calls.add(new Call(FAULT, "fault()", BeamTurnstiles::fault));
        return calls;
    }

    private static void addPairs(List<Call> calls, int a) {
        for (int b : BESIDE) {
            calls.add(new Call(ACTS, "set(" + a + ", " + b + ")", x -> x.set(a, b)));
            calls.add(new Call(ACTS, "event(" + a + ", " + b + ")", x -> x.event(a, b)));
            calls.add(new Call(TELLS, "gate(" + a + ", " + b + ")", x -> x.gate(a, b)));
            calls.add(new Call(WHAT_IF, "eventsTo(" + a + ", " + b + ")", x -> x.eventsTo(a, b)));
        }
    }
}
