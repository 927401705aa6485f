/** Turnstiles that count people by the order in which the two beams of a gate are cut and freed. */
public final class BeamTurnstiles {
    public static final int NO_SUCH = -1, BAD_VALUE = -2, BAD_TEXT = -3, TOO_MANY = -4, NOT_POSSIBLE = -5, NONE = -6;
    public static final int SLOW = 0, TAIL = 1, LIMIT = 2;

    private static final int[] LOWEST = {1, 0, 1};
    private static final int[] HIGHEST = {200, 50, 500};
    private static final int SETTINGS = 3;
    private static final int GATES = 6;
    private static final int BEAMS_OR_BOTH = 3;
    private static final int BOTH = 2;
    private static final int WAY_IN = 0;
    private static final int WAY_BACK = 2;
    private static final int WAYS = 3;
    private static final int STEPS_THROUGH = 4;
    private static final int MOST_TICKS = 99999;
    private static final int MOST_TICKS_AT_ONCE = 999;
    private static final int MOST_PEOPLE_BY_HAND = 999;
    private static final int TOLD_OF_A_GATE = 13;
    private static final int TOLD_BY_COUNT = 18;
    private static final int TOLD_BY_IF_READ = 6;
    private static final int SLOTS = 2;

    private final Hall hall = new Hall();
    // Kept, so that ifRead() needs no new hall at each call.
    private final Hall trial = new Hall();
    private final Pad pad = new Pad();
    private final History history = new History();
    private final int[][] slots = new int[SLOTS][Hall.SIZE];
    private final boolean[] saved = new boolean[SLOTS];

    public BeamTurnstiles() {
    }

    // ---- changes

    public int set(int setting, int value) {
        if (setting < 0 || setting >= SETTINGS) {
            return BAD_VALUE;
        }
        if (value < LOWEST[setting] || value > HIGHEST[setting]) {
            return BAD_VALUE;
        }
        history.keep(hall.row);
        int previous = hall.row[setting];
        hall.row[setting] = value;
        return previous;
    }

    public int event(int gate, int beam) {
        if (isNoGate(gate)) {
            return NO_SUCH;
        }
        if (beam < 0 || beam >= BEAMS_OR_BOTH) {
            return BAD_VALUE;
        }
        history.keep(hall.row);
        return hall.change(gate, beam);
    }

    public int pass(int ticks) {
        if (ticks < 1 || ticks > MOST_TICKS_AT_ONCE) {
            return BAD_VALUE;
        }
        if (!hall.hasRoomFor(ticks)) {
            return TOO_MANY;
        }
        history.keep(hall.row);
        hall.goBy(ticks);
        return Integer.bitCount(hall.blockedMask());
    }

    public int read() {
        if (pad.firstFault() != NONE) {
            return BAD_TEXT;
        }
        history.keep(hall.row);
        int ended = pad.happenIn(hall);
        pad.empty();
        return ended;
    }

    public int correct(int people) {
        if (people < 0 || people > MOST_PEOPLE_BY_HAND) {
            return BAD_VALUE;
        }
        history.keep(hall.row);
        int before = hall.row[Hall.PEOPLE];
        hall.becomeInside(people);
        return before;
    }

    public int clear(int gate) {
        if (isNoGate(gate)) {
            return NO_SUCH;
        }
        if (!hall.isUnderWay(gate)) {
            return NOT_POSSIBLE;
        }
        history.keep(hall.row);
        return hall.free(gate);
    }

    // ---- what there is; nothing changes

    public int gate(int gate, int what) {
        if (isNoGate(gate)) {
            return NO_SUCH;
        }
        if (what < 0 || what >= TOLD_OF_A_GATE) {
            return BAD_VALUE;
        }
        return hall.tell(gate, what);
    }

    public int count(int what) {
        if (what < 0 || what >= TOLD_BY_COUNT) {
            return BAD_VALUE;
        }
        if (what < Hall.HEAD) {
            return hall.row[what];
        }
        switch (what) {
            case 14:
                return hall.blockedMask();
            case 15:
                return hall.underWayMask();
            case 16:
                return pad.length;
            case 17:
                return history.size;
            default:
                return hall.sumOfGates(what - Hall.HEAD + Hall.IN);
        }
    }

    public int mean(int gate) {
        if (isNoGate(gate)) {
            return NO_SUCH;
        }
        int passages = hall.passagesThrough(gate);
        if (passages <= 0) {
            return NONE;
        }
        return hall.tell(gate, Hall.TICKS) / passages;
    }

    public int busiest() {
        int best = NONE;
        int most = 0;
        for (int gate = 0; gate < GATES; gate++) {
            int passages = hall.passagesThrough(gate);
            if (passages > most) {
                most = passages;
                best = gate;
            }
        }
        return best;
    }

    // ---- what if; nothing changes

    public int ifRead(int what) {
        if (pad.firstFault() != NONE) {
            return BAD_TEXT;
        }
        if (what < 0 || what >= TOLD_BY_IF_READ) {
            return BAD_VALUE;
        }
        copyRow(hall.row, trial.row);
        pad.happenIn(trial);
        switch (what) {
            case 4:
                return trial.row[Hall.PEOPLE];
            case 5:
                return trial.row[Hall.ALARMS] - hall.row[Hall.ALARMS];
            default:
                return trial.sumOfGates(Hall.IN + what) - hall.sumOfGates(Hall.IN + what);
        }
    }

    public int eventsTo(int gate, int way) {
        if (isNoGate(gate)) {
            return NO_SUCH;
        }
        if (way < 0 || way >= WAYS) {
            return BAD_VALUE;
        }
        if (!hall.isUnderWay(gate) || !hall.isSure(gate)) {
            return NOT_POSSIBLE;
        }
        int place = hall.placeOf(gate);
        int steps = Math.abs(place);
        if (way == WAY_BACK) {
            return steps;
        }
        // The place 0 lies between the two ways, and the passage would end there, turned back.
        boolean onItsWay = (way == WAY_IN) == (place > 0);
        return onItsWay ? STEPS_THROUGH - steps : NONE;
    }

    public int untilBlocked() {
        int soonest = NONE;
        for (int gate = 0; gate < GATES; gate++) {
            if (hall.isUnderWay(gate) && !hall.isBlocked(gate)) {
                int ticks = hall.row[SLOW] - hall.ticksUnderWay(gate);
                if (soonest == NONE || ticks < soonest) {
                    soonest = ticks;
                }
            }
        }
        return soonest;
    }

    // ---- texts

    public int put(long characters) {
        int number = Pad.numberOf(characters);
        if (number < 1) {
            return BAD_VALUE;
        }
        if (!pad.hasRoomFor(number)) {
            return TOO_MANY;
        }
        pad.append(characters, number);
        return pad.length;
    }

    public int wipe() {
        int before = pad.length;
        pad.empty();
        return before;
    }

    public int fault() {
        return pad.firstFault();
    }

    // ---- undo, saving

    public int undo() {
        if (history.size == 0) {
            return NOT_POSSIBLE;
        }
        history.takeBack(hall.row);
        return history.size;
    }

    public int save(int slot) {
        if (isNoSlot(slot)) {
            return BAD_VALUE;
        }
        copyRow(hall.row, slots[slot]);
        saved[slot] = true;
        return hall.row[Hall.PEOPLE];
    }

    public int restore(int slot) {
        if (isNoSlot(slot)) {
            return BAD_VALUE;
        }
        if (!saved[slot]) {
            return NOT_POSSIBLE;
        }
        history.keep(hall.row);
        copyRow(slots[slot], hall.row);
        return hall.row[Hall.PEOPLE];
    }

    private static boolean isNoGate(int gate) {
        return gate < 0 || gate >= GATES;
    }

    private static boolean isNoSlot(int slot) {
        return slot < 0 || slot >= SLOTS;
    }

    private static void copyRow(int[] from, int[] to) {
        System.arraycopy(from, 0, to, 0, Hall.SIZE);
    }

    /**
     * Everything that undo and the slots keep. It is one row of numbers, so that a state is copied as a whole
     * and no number can be forgotten.
     */
    private static final class Hall {
        // The head of the row, in the order in which count() tells it; the settings come first.
        static final int NOW = 3;
        static final int PEOPLE = 4;
        static final int MOST_PEOPLE = 5;
        static final int ALARMS = 6;
        static final int ODD = 7;
        static final int HEAD = 8;

        // Then a part for each gate, in the order in which gate() tells it. Whether a gate is blocked follows from
        // the other numbers and is not kept, so its place is free for the latest way.
        static final int LOOK = 0;
        static final int BEGAN = 1;
        static final int PLACE = 2;
        static final int SURE = 3;
        static final int BLOCKED = 4;
        static final int LATEST_WAY = 4;
        static final int IN = 5;
        static final int OUT = 6;
        static final int TURNED_BACK = 7;
        static final int LOST = 8;
        static final int SLOW_ONES = 9;
        static final int TAILS = 10;
        static final int TICKS = 11;
        static final int LATEST_END = 12;
        static final int PART = 13;
        static final int SIZE = HEAD + GATES * PART;

        // By these the look, a number of the ring 0 to 3, changes when the outer beam, the inner one or both do.
        private static final int[] TURNED_BITS = {1, 3, 2};
        private static final int RING = 3;

        final int[] row = new int[SIZE];

        Hall() {
            row[SLOW] = 30;
            row[TAIL] = 3;
            row[LIMIT] = 20;
            for (int gate = 0; gate < GATES; gate++) {
                row[partOf(gate) + LATEST_END] = NONE;
            }
        }

        private static int partOf(int gate) {
            return HEAD + gate * PART;
        }

        int change(int gate, int beam) {
            int part = partOf(gate);
            int before = row[part + LOOK];
            int look = before ^ TURNED_BITS[beam];
            if (before == 0) {
                begin(part);
            }
            if (beam == BOTH) {
                row[part + SURE] = 0;
            } else {
                row[part + PLACE] += look == ((before + 1) & RING) ? 1 : -1;
            }
            row[part + LOOK] = look;
            if (look == 0) {
                end(part);
            }
            return look;
        }

        int free(int gate) {
            int part = partOf(gate);
            int before = row[part + LOOK];
            row[part + LOOK] = 0;
            row[part + SURE] = 0;
            end(part);
            return before;
        }

        private void begin(int part) {
            row[part + BEGAN] = row[NOW];
            row[part + PLACE] = 0;
            row[part + SURE] = 1;
        }

        private void end(int part) {
            if (row[NOW] - row[part + BEGAN] >= row[SLOW]) {
                row[part + SLOW_ONES]++;
            }
            if (row[part + SURE] == 0) {
                row[part + LOST]++;
            } else if (row[part + PLACE] == STEPS_THROUGH) {
                comeThrough(part, IN);
                oneMoreInside();
            } else if (row[part + PLACE] == -STEPS_THROUGH) {
                comeThrough(part, OUT);
                oneLessInside();
            } else {
                row[part + TURNED_BACK]++;
            }
        }

        private void comeThrough(int part, int way) {
            int began = row[part + BEGAN];
            // LATEST_WAY is neither way as long as nobody has come through.
            if (row[part + LATEST_WAY] == way && began - row[part + LATEST_END] <= row[TAIL]) {
                row[part + TAILS]++;
            }
            row[part + way]++;
            row[part + TICKS] += row[NOW] - began;
            row[part + LATEST_WAY] = way;
            row[part + LATEST_END] = row[NOW];
        }

        private void oneMoreInside() {
            becomeInside(row[PEOPLE] + 1);
            if (row[PEOPLE] > row[LIMIT]) {
                row[ALARMS]++;
            }
        }

        private void oneLessInside() {
            if (row[PEOPLE] > 0) {
                row[PEOPLE]--;
            } else {
                row[ODD]++;
            }
        }

        void becomeInside(int people) {
            row[PEOPLE] = people;
            if (people > row[MOST_PEOPLE]) {
                row[MOST_PEOPLE] = people;
            }
        }

        boolean hasRoomFor(int ticks) {
            return row[NOW] + ticks <= MOST_TICKS;
        }

        void goBy(int ticks) {
            row[NOW] += ticks;
        }

        boolean isUnderWay(int gate) {
            return row[partOf(gate) + LOOK] != 0;
        }

        boolean isSure(int gate) {
            return row[partOf(gate) + SURE] != 0;
        }

        int placeOf(int gate) {
            return row[partOf(gate) + PLACE];
        }

        int ticksUnderWay(int gate) {
            return row[NOW] - row[partOf(gate) + BEGAN];
        }

        boolean isBlocked(int gate) {
            return isUnderWay(gate) && ticksUnderWay(gate) >= row[SLOW];
        }

        int blockedMask() {
            int mask = 0;
            for (int gate = 0; gate < GATES; gate++) {
                if (isBlocked(gate)) {
                    mask |= 1 << gate;
                }
            }
            return mask;
        }

        int underWayMask() {
            int mask = 0;
            for (int gate = 0; gate < GATES; gate++) {
                if (isUnderWay(gate)) {
                    mask |= 1 << gate;
                }
            }
            return mask;
        }

        int sumOfGates(int what) {
            int sum = 0;
            for (int gate = 0; gate < GATES; gate++) {
                sum += row[partOf(gate) + what];
            }
            return sum;
        }

        int passagesThrough(int gate) {
            int part = partOf(gate);
            return row[part + IN] + row[part + OUT];
        }

        int tell(int gate, int what) {
            switch (what) {
                case BEGAN:
                    return isUnderWay(gate) ? row[partOf(gate) + BEGAN] : NONE;
                case PLACE:
                    return isUnderWay(gate) && isSure(gate) ? placeOf(gate) + STEPS_THROUGH : NONE;
                case SURE:
                    return isUnderWay(gate) ? row[partOf(gate) + SURE] : NONE;
                case BLOCKED:
                    return isBlocked(gate) ? 1 : 0;
                default:
                    return row[partOf(gate) + what];
            }
        }
    }

    /** The text of events that are to be read. */
    private static final class Pad {
        private static final int MOST = 60;
        private static final int CHARACTERS_OF_A_NUMBER = 8;
        private static final int BITS = 8;
        private static final int MASK = 255;
        private static final int FIRST_CODE = 33;
        private static final int LAST_CODE = 126;

        // What has been read last, by which it is known what can stand next.
        private static final int BEFORE_EVENT = 0;
        private static final int GATE_READ = 1;
        private static final int LETTER_READ = 2;
        private static final int DOT_READ = 3;
        private static final int DIGIT_READ = 4;
        private static final int TWO_DIGITS_READ = 5;
        private static final int WRONG = 6;

        private final char[] text = new char[MOST];
        int length = 0;

        /** Returns how many characters the number holds, or BAD_VALUE if it isn't made as it has to be. */
        static int numberOf(long characters) {
            for (int number = 0; number < CHARACTERS_OF_A_NUMBER; number++) {
                long rest = characters >>> (BITS * number);
                int code = (int) (rest & MASK);
                if (code == 0) {
                    return rest == 0 ? number : BAD_VALUE;
                }
                if (code < FIRST_CODE || code > LAST_CODE) {
                    return BAD_VALUE;
                }
            }
            return CHARACTERS_OF_A_NUMBER;
        }

        boolean hasRoomFor(int number) {
            return length + number <= MOST;
        }

        void append(long characters, int number) {
            for (int left = number - 1; left >= 0 && length < MOST; left--) {
                text[length] = (char) ((characters >>> (BITS * left)) & MASK);
                length++;
            }
        }

        void empty() {
            length = 0;
        }

        int firstFault() {
            int state = BEFORE_EVENT;
            for (int at = 0; at < length; at++) {
                state = stateAfter(state, text[at]);
                if (state == WRONG) {
                    return at;
                }
            }
            boolean ended = state == LETTER_READ || state == DIGIT_READ || state == TWO_DIGITS_READ;
            return ended ? NONE : length;
        }

        private static int stateAfter(int state, char c) {
            switch (state) {
                case BEFORE_EVENT:
                    if (c == '.') {
                        return DOT_READ;
                    }
                    return isGateDigit(c) ? GATE_READ : WRONG;
                case GATE_READ:
                    return beamOf(c) >= 0 ? LETTER_READ : WRONG;
                case LETTER_READ:
                    return beamOf(c) >= 0 ? LETTER_READ : afterEvent(c);
                case DOT_READ:
                    return isDigit(c) && c != '0' ? DIGIT_READ : WRONG;
                case DIGIT_READ:
                    return isDigit(c) ? TWO_DIGITS_READ : afterEvent(c);
                default:
                    return afterEvent(c);
            }
        }

        private static int afterEvent(char c) {
            return c == ';' ? BEFORE_EVENT : WRONG;
        }

        private static boolean isDigit(char c) {
            return c >= '0' && c <= '9';
        }

        private static boolean isGateDigit(char c) {
            return c >= '0' && c < '0' + GATES;
        }

        private static int beamOf(char c) {
            if (c == 'o') {
                return 0;
            }
            if (c == 'i') {
                return 1;
            }
            return c == 'b' ? BOTH : NONE;
        }

        /** Lets the events of a text without a fault happen, and returns how many passages end by them. */
        int happenIn(Hall hall) {
            int ended = 0;
            int start = 0;
            for (int at = 0; at <= length; at++) {
                boolean behindEvent = at == length || text[at] == ';';
                if (behindEvent && start < at) {
                    if (text[start] == '.') {
                        letGoBy(hall, numberIn(start + 1, at));
                    } else {
                        ended += changeBeams(hall, start, at);
                    }
                    start = at + 1;
                }
            }
            return ended;
        }

        private int changeBeams(Hall hall, int start, int end) {
            int gate = text[start] - '0';
            if (isNoGate(gate)) {
                return 0;
            }
            int ended = 0;
            for (int at = start + 1; at < end; at++) {
                int beam = beamOf(text[at]);
                // Each change gives another look, so one that leaves it at 0 has ended a passage.
                if (beam >= 0 && hall.change(gate, beam) == 0) {
                    ended++;
                }
            }
            return ended;
        }

        private int numberIn(int from, int end) {
            int number = 0;
            for (int at = from; at < end; at++) {
                number = number * 10 + text[at] - '0';
            }
            return number;
        }

        private static void letGoBy(Hall hall, int ticks) {
            if (hall.hasRoomFor(ticks)) {
                hall.goBy(ticks);
            }
        }
    }

    /** The latest states before changes, in a ring whose rows are used again. */
    private static final class History {
        private static final int MOST = 6;

        private final int[][] rows = new int[MOST][Hall.SIZE];
        private int next = 0;
        int size = 0;

        void keep(int[] row) {
            copyRow(row, rows[next]);
            next = next + 1 < MOST ? next + 1 : 0;
            size = Math.min(size + 1, MOST);
        }

        void takeBack(int[] row) {
            next = next > 0 ? next - 1 : MOST - 1;
            copyRow(rows[next], row);
            size--;
        }
    }
}
