import java.util.ArrayList;
import java.util.List;
import java.util.regex.Matcher;
import java.util.regex.Pattern;

/**
 * The document once more, slowly: it keeps the beams and a list of all passages that have ended, and counts from
 * that list whatever is asked. It shares nothing with the class, so that a mistake in one of them shows.
 */
final class Model {
    private static final int NO_SUCH = -1, BAD_VALUE = -2, BAD_TEXT = -3, TOO_MANY = -4, NOT_POSSIBLE = -5, NONE = -6;
    private static final Pattern TEXT = Pattern.compile("(E(;E)*)".replace("E", "([0-5][oib]+|\\.[1-9][0-9]?)"));

    private record Ended(int gate, int begin, int end, char kind, boolean slow, boolean tail) {
        boolean cameThrough() {
            return kind == 'i' || kind == 'o';
        }
    }

    private static final class State {
        int[] settings = {30, 3, 20};
        int now, people, most, alarms, odd;
        boolean[] outer = new boolean[6], inner = new boolean[6], sure = new boolean[6];
        int[] begin = new int[6], place = new int[6];
        List<Ended> ended = new ArrayList<>();

        State copy() {
            State other = new State();
            other.settings = settings.clone();
            other.now = now;
            other.people = people;
            other.most = most;
            other.alarms = alarms;
            other.odd = odd;
            other.outer = outer.clone();
            other.inner = inner.clone();
            other.sure = sure.clone();
            other.begin = begin.clone();
            other.place = place.clone();
            other.ended = new ArrayList<>(ended);
            return other;
        }

        int look(int gate) {
            return outer[gate] ? (inner[gate] ? 2 : 1) : (inner[gate] ? 3 : 0);
        }

        boolean blocked(int gate, int then) {
            return look(gate) != 0 && begin[gate] + settings[0] <= then;
        }

        int blockedThen(int then) {
            int blocked = 0;
            for (int gate = 0; gate < 6; gate++) {
                blocked += blocked(gate, then) ? 1 : 0;
            }
            return blocked;
        }

        int number(int gate, char kind) {
            return (int) ended.stream().filter(e -> e.gate == gate && e.kind == kind).count();
        }

        void change(int gate, int beam) {
            int before = look(gate);
            if (before == 0) {
                begin[gate] = now;
                place[gate] = 0;
                sure[gate] = true;
            }
            if (beam != 1) {
                outer[gate] = !outer[gate];
            }
            if (beam != 0) {
                inner[gate] = !inner[gate];
            }
            int step = Math.floorMod(look(gate) - before, 4);
            sure[gate] &= step != 2;
            place[gate] += step == 1 ? 1 : step == 3 ? -1 : 0;
            if (look(gate) == 0) {
                end(gate, !sure[gate] ? 'l' : place[gate] == 4 ? 'i' : place[gate] == -4 ? 'o' : 't');
            }
        }

        void end(int gate, char kind) {
            Ended latest = latest(gate);
            boolean through = kind == 'i' || kind == 'o';
            boolean tail = through && latest != null && latest.kind == kind && begin[gate] - latest.end <= settings[1];
            ended.add(new Ended(gate, begin[gate], now, kind, now - begin[gate] >= settings[0], tail));
            if (kind == 'i') {
                people++;
                most = Math.max(most, people);
                alarms += people > settings[2] ? 1 : 0;
            } else if (kind == 'o') {
                odd += people == 0 ? 1 : 0;
                people = Math.max(0, people - 1);
            }
        }

        Ended latest(int gate) {
            Ended latest = null;
            for (Ended e : ended) {
                latest = e.gate == gate && e.cameThrough() ? e : latest;
            }
            return latest;
        }

        void happen(String text) {
            for (String event : text.split(";")) {
                if (event.startsWith(".")) {
                    int ticks = Integer.parseInt(event.substring(1));
                    now += now + ticks > 99999 ? 0 : ticks;
                } else {
                    event.substring(1).chars().forEach(c -> change(event.charAt(0) - '0', "oib".indexOf(c)));
                }
            }
        }
    }

    private State now = new State();
    private final List<State> history = new ArrayList<>();
    private final State[] slots = new State[2];
    private String pad = "";

    private void record() {
        history.add(now.copy());
        if (history.size() > 6) {
            history.remove(0);
        }
    }

    private static boolean within(int value, int low, int high) {
        return low <= value && value <= high;
    }

    int set(int setting, int value) {
        if (!within(setting, 0, 2)) {
            return BAD_VALUE;
        }
        boolean fits = switch (setting) {
            case 0 -> within(value, 1, 200);
            case 1 -> within(value, 0, 50);
            default -> within(value, 1, 500);
        };
        if (!fits) {
            return BAD_VALUE;
        }
        record();
        int previous = now.settings[setting];
        now.settings[setting] = value;
        return previous;
    }

    int event(int gate, int beam) {
        if (!within(gate, 0, 5)) {
            return NO_SUCH;
        }
        if (!within(beam, 0, 2)) {
            return BAD_VALUE;
        }
        record();
        now.change(gate, beam);
        return now.look(gate);
    }

    int pass(int ticks) {
        if (!within(ticks, 1, 999)) {
            return BAD_VALUE;
        }
        if (now.now + ticks > 99999) {
            return TOO_MANY;
        }
        record();
        now.now += ticks;
        return now.blockedThen(now.now);
    }

    int read() {
        if (fault() != NONE) {
            return BAD_TEXT;
        }
        record();
        int before = now.ended.size();
        now.happen(pad);
        pad = "";
        return now.ended.size() - before;
    }

    int correct(int people) {
        if (!within(people, 0, 999)) {
            return BAD_VALUE;
        }
        record();
        int before = now.people;
        now.people = people;
        now.most = Math.max(now.most, people);
        return before;
    }

    int clear(int gate) {
        if (!within(gate, 0, 5)) {
            return NO_SUCH;
        }
        int look = now.look(gate);
        if (look == 0) {
            return NOT_POSSIBLE;
        }
        record();
        now.outer[gate] = false;
        now.inner[gate] = false;
        now.end(gate, 'l');
        return look;
    }

    int gate(int gate, int what) {
        if (!within(gate, 0, 5)) {
            return NO_SUCH;
        }
        if (!within(what, 0, 12)) {
            return BAD_VALUE;
        }
        boolean under = now.look(gate) != 0;
        return switch (what) {
            case 0 -> now.look(gate);
            case 1 -> under ? now.begin[gate] : NONE;
            case 2 -> under && now.sure[gate] ? now.place[gate] + 4 : NONE;
            case 3 -> !under ? NONE : now.sure[gate] ? 1 : 0;
            case 4 -> now.blocked(gate, now.now) ? 1 : 0;
            case 5, 6, 7, 8 -> now.number(gate, "iotl".charAt(what - 5));
            case 9 -> (int) now.ended.stream().filter(e -> e.gate == gate && e.slow).count();
            case 10 -> (int) now.ended.stream().filter(e -> e.gate == gate && e.tail).count();
            case 11 -> now.ended.stream().filter(e -> e.gate == gate && e.cameThrough())
                .mapToInt(e -> e.end - e.begin).sum();
            default -> now.latest(gate) == null ? NONE : now.latest(gate).end;
        };
    }

    int count(int what) {
        if (!within(what, 0, 17)) {
            return BAD_VALUE;
        }
        int sum = 0;
        for (int gate = 0; gate < 6; gate++) {
            sum += within(what, 8, 13) ? gate(gate, what - 3) : 0;
            sum += what == 14 && now.blocked(gate, now.now) ? 1 << gate : 0;
            sum += what == 15 && now.look(gate) != 0 ? 1 << gate : 0;
        }
        return switch (what) {
            case 0, 1, 2 -> now.settings[what];
            case 3 -> now.now;
            case 4 -> now.people;
            case 5 -> now.most;
            case 6 -> now.alarms;
            case 7 -> now.odd;
            case 16 -> pad.length();
            case 17 -> history.size();
            default -> sum;
        };
    }

    private int through(int gate) {
        return now.number(gate, 'i') + now.number(gate, 'o');
    }

    int mean(int gate) {
        if (!within(gate, 0, 5)) {
            return NO_SUCH;
        }
        return through(gate) == 0 ? NONE : gate(gate, 11) / through(gate);
    }

    int busiest() {
        for (int most = now.ended.size(); most > 0; most--) {
            for (int gate = 0; gate < 6; gate++) {
                if (through(gate) == most) {
                    return gate;
                }
            }
        }
        return NONE;
    }

    int ifRead(int what) {
        if (fault() != NONE) {
            return BAD_TEXT;
        }
        if (!within(what, 0, 5)) {
            return BAD_VALUE;
        }
        State then = now.copy();
        then.happen(pad);
        if (what < 4) {
            char kind = "iotl".charAt(what);
            return (int) then.ended.stream().skip(now.ended.size()).filter(e -> e.kind == kind).count();
        }
        return what == 4 ? then.people : then.alarms - now.alarms;
    }

    int eventsTo(int gate, int way) {
        if (!within(gate, 0, 5)) {
            return NO_SUCH;
        }
        if (!within(way, 0, 2)) {
            return BAD_VALUE;
        }
        if (now.look(gate) == 0 || !now.sure[gate]) {
            return NOT_POSSIBLE;
        }
        return fewest(now, gate, "iot".charAt(way), 6);
    }

    /** Tries all events of one beam, and all behind them, as far as the passage is under way. */
    private static int fewest(State from, int gate, char kind, int most) {
        int fewest = NONE;
        for (int beam = 0; beam < 2 && most > 0; beam++) {
            State then = from.copy();
            then.change(gate, beam);
            int more = NONE;
            if (then.look(gate) != 0) {
                more = fewest(then, gate, kind, most - 1);
            } else if (then.ended.get(then.ended.size() - 1).kind == kind) {
                more = 0;
            }
            if (more != NONE && (fewest == NONE || more + 1 < fewest)) {
                fewest = more + 1;
            }
        }
        return fewest;
    }

    int untilBlocked() {
        for (int ticks = 1; ticks <= 200; ticks++) {
            if (now.blockedThen(now.now + ticks) > now.blockedThen(now.now)) {
                return ticks;
            }
        }
        return NONE;
    }

    int put(long characters) {
        StringBuilder text = new StringBuilder();
        long left = characters;
        while (left != 0) {
            text.insert(0, (char) (left & 255));
            left >>>= 8;
        }
        if (text.length() == 0 || text.chars().anyMatch(c -> !within(c, 33, 126))) {
            return BAD_VALUE;
        }
        if (pad.length() + text.length() > 60) {
            return TOO_MANY;
        }
        pad += text;
        return pad.length();
    }

    int wipe() {
        int length = pad.length();
        pad = "";
        return length;
    }

    int fault() {
        for (int end = 1; end <= pad.length(); end++) {
            Matcher start = TEXT.matcher(pad.substring(0, end));
            if (!start.matches() && !start.hitEnd()) {
                return end - 1;
            }
        }
        return TEXT.matcher(pad).matches() ? NONE : pad.length();
    }

    int undo() {
        if (history.isEmpty()) {
            return NOT_POSSIBLE;
        }
        now = history.remove(history.size() - 1);
        return history.size();
    }

    int save(int slot) {
        if (!within(slot, 0, 1)) {
            return BAD_VALUE;
        }
        slots[slot] = now.copy();
        return now.people;
    }

    int restore(int slot) {
        if (!within(slot, 0, 1)) {
            return BAD_VALUE;
        }
        if (slots[slot] == null) {
            return NOT_POSSIBLE;
        }
        record();
        now = slots[slot].copy();
        return now.people;
    }
}
