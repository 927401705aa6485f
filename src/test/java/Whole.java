/** All that an object tells, as one text, to see whether two objects, or one before and behind a call, are alike. */
final class Whole {
    private Whole() {
    }

    /** What undo() and the slots keep, as far as count() and gate() tell it. */
    static String state(BeamTurnstiles x) {
        StringBuilder all = new StringBuilder();
        for (int what = 0; what < 16; what++) {
            all.append(x.count(what)).append(' ');
        }
        for (int gate = 0; gate < 6; gate++) {
            for (int what = 0; what < 13; what++) {
                all.append(x.gate(gate, what)).append(' ');
            }
        }
        return all.toString();
    }

    /** What the other methods tell, the pad and the number of changes among it. */
    static String answers(BeamTurnstiles x) {
        StringBuilder all = new StringBuilder();
        all.append(x.count(16)).append(' ').append(x.count(17)).append(' ').append(x.fault()).append(' ');
        all.append(x.busiest()).append(' ').append(x.untilBlocked()).append(' ');
        for (int k = 0; k < 6; k++) {
            all.append(x.ifRead(k)).append(' ').append(x.mean(k)).append(' ');
            for (int way = 0; way < 3; way++) {
                all.append(x.eventsTo(k, way)).append(' ');
            }
        }
        return all.toString();
    }

    /** What no method tells by itself: which way the latest passage of each gate was. Changes the object. */
    static String tailsThen(BeamTurnstiles x) {
        StringBuilder all = new StringBuilder();
        x.set(1, 50);
        for (int gate = 0; gate < 6; gate++) {
            if (x.gate(gate, 0) != 0) {
                x.clear(gate);
            }
            for (String way : new String[] {"oioi", "ioio", "oioi"}) {
                Due.events(x, gate, way);
                all.append(x.gate(gate, 10)).append(' ');
            }
        }
        return all.toString();
    }

    /** Something of everything: passages of all kinds, gates in all looks, 6 changes, one slot, a faulty pad. */
    static BeamTurnstiles busy() {
        BeamTurnstiles x = Due.after(".5;0oioi;0oioi;1ioio;2oo;3bb;4oio;5b");
        x.save(0);
        x.pass(40);
        x.set(0, 50);
        x.correct(3);
        x.event(0, 0);
        Due.readText(x, "1i;.9;1oio;2io;3oi;5b");
        x.clear(3);
        x.set(2, 2);
        Due.readText(x, "2ioio;.60;1ioio;5ob");
        Due.putText(x, "0ioi;");
        return x;
    }

    /** At the end of the ticks, with a full pad without a fault, 6 changes and both slots. */
    static BeamTurnstiles full() {
        BeamTurnstiles x = Due.atTick(99990);
        x.save(0);
        Due.readText(x, "0oioi;1ioio;2o;3b;.9");
        x.correct(999);
        x.save(1);
        Due.putText(x, "0" + "oi".repeat(29) + "b");
        return x;
    }
}
