import java.util.Random;

/** Runs of random calls, the same in every run of the test: the class has to answer as the model does. */
final class ModelTest {
    private static final int RUNS = 4000;
    // Nothing is promised about an object after its 512th call.
    private static final int CALLS = 512;
    private static final int CALLS_OF_EVERYTHING = 105;
    private static final int MOST_CALLS_AT_ONCE = 4;

    private final Random random;
    private final BeamTurnstiles x = new BeamTurnstiles();
    private final Model model = new Model();
    private final String run;
    // Most events are at one gate, so that many passages come to their end.
    private int gate = 0;
    private int calls = 0;

    private ModelTest(long seed) {
        random = new Random(seed);
        run = "run " + seed + ": ";
    }

    public static void main(String[] args) {
        for (int seed = 0; seed < RUNS; seed++) {
            new ModelTest(seed).go(seed % 10 == 0, 1 + seed % 3);
        }
        Due.end("ModelTest");
    }

    private void go(boolean nearTheEnd, int looks) {
        if (nearTheEnd) {
            for (int k = 0; k < 100; k++) {
                same("pass(999)", x.pass(999), model.pass(999));
            }
        }
        int start = calls;
        for (int look = 1; look <= looks; look++) {
            goOn(start + (CALLS - start) * look / looks - CALLS_OF_EVERYTHING);
            everything();
        }
        Due.due(run + "calls, at most 512", Math.max(calls, CALLS), CALLS);
    }

    private void goOn(int mostCalls) {
        while (calls + MOST_CALLS_AT_ONCE <= mostCalls) {
            oneCall(random.nextInt(44));
        }
    }

    private void same(String call, int got, int want) {
        calls++;
        Due.due(run + call, got, want);
    }

    /** Nearly always within the range, sometimes just beside it, and seldom far away. */
    private int near(int low, int high) {
        int kind = random.nextInt(40);
        if (kind == 0) {
            return random.nextBoolean() ? low - 1 : high + 1;
        }
        if (kind == 1) {
            return random.nextInt();
        }
        return low + random.nextInt(high - low + 1);
    }

    private int someGate() {
        if (random.nextInt(12) == 0) {
            gate = random.nextInt(6);
        }
        return random.nextInt(8) == 0 ? near(0, 5) : gate;
    }

    private void oneCall(int which) {
        if (which < 14) {
            changeBeam();
        } else if (which < 20) {
            aChange(which);
        } else if (which < 28) {
            tell(which);
        } else if (which < 38) {
            write();
        } else {
            keep(which);
        }
    }

    private void changeBeam() {
        int at = someGate();
        int beam = random.nextInt(15) == 0 ? near(0, 2) : random.nextInt(2);
        same("event(" + at + ", " + beam + ")", x.event(at, beam), model.event(at, beam));
    }

    private void aChange(int which) {
        if (which == 14) {
            int setting = near(0, 2);
            int value = random.nextBoolean() ? near(0, 4) : near(1, setting == 0 ? 200 : setting == 1 ? 50 : 500);
            same("set(" + setting + ", " + value + ")", x.set(setting, value), model.set(setting, value));
        } else if (which == 15) {
            int people = random.nextBoolean() ? near(0, 3) : near(0, 999);
            same("correct(" + people + ")", x.correct(people), model.correct(people));
        } else if (which == 16) {
            int at = someGate();
            same("clear(" + at + ")", x.clear(at), model.clear(at));
        } else {
            int ticks = random.nextInt(6) == 0 ? near(1, 999) : near(1, 9);
            same("pass(" + ticks + ")", x.pass(ticks), model.pass(ticks));
        }
    }

    private void tell(int which) {
        int at = someGate();
        if (which < 22) {
            int what = near(0, 12);
            same("gate(" + at + ", " + what + ")", x.gate(at, what), model.gate(at, what));
        } else if (which < 24) {
            int what = near(0, 17);
            same("count(" + what + ")", x.count(what), model.count(what));
        } else if (which == 24) {
            same("mean(" + at + ")", x.mean(at), model.mean(at));
        } else if (which == 25) {
            same("busiest()", x.busiest(), model.busiest());
        } else if (which == 26) {
            int way = near(0, 2);
            same("eventsTo(" + at + ", " + way + ")", x.eventsTo(at, way), model.eventsTo(at, way));
        } else {
            same("untilBlocked()", x.untilBlocked(), model.untilBlocked());
        }
    }

    private void write() {
        int kind = random.nextInt(20);
        if (kind == 0) {
            long any = random.nextBoolean() ? random.nextLong() : random.nextLong() >>> random.nextInt(64);
            same("put(" + any + ")", x.put(any), model.put(any));
        } else if (kind < 12) {
            putText();
        } else if (kind == 12) {
            same("wipe()", x.wipe(), model.wipe());
        } else if (kind < 15) {
            same("fault()", x.fault(), model.fault());
        } else if (kind < 18) {
            int what = near(0, 5);
            same("ifRead(" + what + ")", x.ifRead(what), model.ifRead(what));
        } else {
            same("read()", x.read(), model.read());
            if (model.count(16) > 20) {
                same("wipe()", x.wipe(), model.wipe());
            }
        }
    }

    private void putText() {
        String[] events = {"oioi", "ioio", "oi", "io", "oo", "bb", "oib", "iioo", "o", "i", "b"};
        String event = random.nextInt(4) == 0 ? "." + near(1, 99) : gate + events[random.nextInt(events.length)];
        if (model.count(16) > 0) {
            event = ";" + event;
        }
        if (random.nextInt(30) == 0) {
            event += ".;0o1".charAt(random.nextInt(5));
        }
        for (int k = 0; k < event.length(); k += 8) {
            long packed = Due.packed(event.substring(k, Math.min(k + 8, event.length())));
            same("put(" + packed + ")", x.put(packed), model.put(packed));
        }
    }

    private void keep(int which) {
        int slot = near(0, 1);
        if (which < 41) {
            same("undo()", x.undo(), model.undo());
        } else if (which == 41) {
            same("save(" + slot + ")", x.save(slot), model.save(slot));
        } else if (which == 42) {
            same("restore(" + slot + ")", x.restore(slot), model.restore(slot));
        } else {
            same("event", x.event(gate, 0), model.event(gate, 0));
        }
    }

    private void everything() {
        for (int what = 0; what < 18; what++) {
            same("count(" + what + ")", x.count(what), model.count(what));
        }
        for (int at = 0; at < 6; at++) {
            for (int what = 0; what < 13; what++) {
                same("gate(" + at + ", " + what + ")", x.gate(at, what), model.gate(at, what));
            }
            same("mean(" + at + ")", x.mean(at), model.mean(at));
        }
        same("busiest()", x.busiest(), model.busiest());
        same("untilBlocked()", x.untilBlocked(), model.untilBlocked());
        same("fault()", x.fault(), model.fault());
    }
}
