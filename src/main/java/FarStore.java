import java.util.Arrays;

/**
 * Two hosts that put and take in each other's memory without asking: their programs, and all that
 * can come of a pair of them.
 */
public final class FarStore {
    public static final int NONE = -1;

    private static final int UNTOLD = -2;

    private static final int HOSTS = 2;
    private static final int WORDS = 4;
    private static final int VALUES = 4;
    private static final int ALL_RIGHTS = 7;
    private static final int STATEMENTS = 7;
    private static final int TAPE_BYTES = 200;
    private static final int FED_BYTES = 20;

    private static final int PUT = 0;
    private static final int GET = 1;
    private static final int SWAP = 2;
    private static final int ADD = 3;
    private static final int FENCE = 4;
    private static final int WAIT = 5;
    private static final int SET = 6;
    private static final int LOAD = 7;
    private static final int IF = 8;
    private static final int SORTS = 9;

    private static final int RIGHT_TO_GET = 1;
    private static final int RIGHT_TO_PUT = 2;
    private static final int RIGHT_TO_CHANGE = 4;

    private static final int STEPS = 10;
    private static final int FIRST_WISH = 2;
    private static final int FIRST_FALL = 8;
    // Programs only go forward: 14 statements, 14 wishes and a fall are the most that a row can have.
    private static final int ROW_LIMIT = 32;

    // A state is one long, so that a walk makes no objects: words in the lowest bits, then registers,
    // places in the programs, queues, what is broken, who fell.
    private static final int REGISTERS_AT = 8;
    private static final int PLACES_AT = 16;
    private static final int QUEUES_AT = 22;
    private static final int BROKEN_AT = 40;
    private static final int FELL_AT = 42;
    private static final int QUEUE_BITS = 9;
    private static final int QUEUE_PLACES = 3;
    private static final long BEHIND_REGISTERS_MASK = ~0xFFFFL;
    private static final long PLACES_MASK = 0x3F0000L;
    private static final long NO_STATE = -1L;

    private final byte[] tape = new byte[TAPE_BYTES];
    private int tapeSize = 0;
    private final Reader reader = new Reader();
    private Program spare = new Program();
    private final Program fenced = new Program();
    private final Machine machine = new Machine();
    private final Walk all = new Walk();
    private boolean isWalked = false;
    private final int[] row = new int[ROW_LIMIT];
    private int rowSize = 0;

    public FarStore() {
    }

    public int feed(int a, int b, int c, int d, int e) {
        if (tapeSize + FED_BYTES > TAPE_BYTES) {
            return NONE;
        }
        append(a);
        append(b);
        append(c);
        append(d);
        append(e);
        return tapeSize;
    }

    private void append(int four) {
        for (int shift = 24; shift >= 0 && tapeSize < TAPE_BYTES; shift -= 8) {
            tape[tapeSize] = (byte) (four >>> shift);
            tapeSize++;
        }
    }

    public int end(int n) {
        if (n < 0 || n > tapeSize) {
            return NONE;
        }
        tapeSize = n;
        return n;
    }

    public int program(int host) {
        if (!isHost(host)) {
            return NONE;
        }
        reader.read(tape, tapeSize, host, spare);
        tapeSize = 0;
        if (reader.fault != 0) {
            return NONE;
        }
        Program former = machine.programs[host];
        machine.programs[host] = spare;
        spare = former;
        isWalked = false;
        return machine.programs[host].size;
    }

    public int fault(int what) {
        if (what == 0) {
            return reader.fault;
        }
        return what == 1 ? reader.place : NONE;
    }

    public boolean word(int w, int v, int rights) {
        if (w < 0 || w >= WORDS || v < 0 || v >= VALUES || rights < 0 || rights > ALL_RIGHTS) {
            return false;
        }
        machine.words[w] = v;
        machine.rights[w] = rights;
        isWalked = false;
        return true;
    }

    public void falls(boolean may) {
        machine.mayFall = may;
        isWalked = false;
    }

    public int walk() {
        return isTold() ? all.count : UNTOLD;
    }

    public int ends(int what) {
        if (what < 0 || what > 3) {
            return NONE;
        }
        if (!isTold()) {
            return UNTOLD;
        }
        switch (what) {
            case 0:
                return all.ends;
            case 1:
                return all.goodEnds;
            case 2:
                return all.brokenEnds;
            default:
                return all.mostSteps();
        }
    }

    public int both(int a, int b) {
        if (!arePlaces(a, b)) {
            return NONE;
        }
        return isTold() ? fewestSteps(false, a, b) : UNTOLD;
    }

    public int outcome(int values, int set) {
        if (!isOutcome(values, set)) {
            return NONE;
        }
        return isTold() ? fewestSteps(true, values, set) : UNTOLD;
    }

    public int step(int i) {
        return i >= 0 && i < rowSize && i < ROW_LIMIT ? row[i] : NONE;
    }

    public int missing(boolean ends, int a, int b) {
        if (ends ? !isOutcome(a, b) : !arePlaces(a, b)) {
            return NONE;
        }
        if (!isTold()) {
            return UNTOLD;
        }
        if (firstState(ends, a, b) == NONE) {
            return NONE;
        }
        for (int host = 0; host < HOSTS; host++) {
            int size = machine.programs[host].size;
            for (int at = 0; at < size && size < STATEMENTS; at++) {
                int found = firstStateBehindFence(host, at, ends, a, b);
                if (found < 0) {
                    return found == UNTOLD ? UNTOLD : 8 * host + at;
                }
            }
        }
        return NONE;
    }

    public int statement(int host, int i, int what) {
        if (!isHost(host) || i < 0 || i >= machine.programs[host].size) {
            return NONE;
        }
        Program told = machine.programs[host];
        if (what == 0) {
            return told.sorts[i];
        }
        if (what < 1 || what > Program.numbersOf(told.sorts[i])) {
            return NONE;
        }
        return told.number(i, what - 1);
    }

    public int about(int what) {
        if (isHost(what)) {
            return machine.programs[what].size;
        }
        if (what == 2) {
            return tapeSize;
        }
        if (what == 3) {
            return machine.mayFall ? 1 : 0;
        }
        if (what >= 10 && what < 10 + WORDS) {
            return machine.words[what - 10];
        }
        if (what >= 20 && what < 20 + WORDS) {
            return machine.rights[what - 20];
        }
        return NONE;
    }

    private static boolean isHost(int host) {
        return host >= 0 && host < HOSTS;
    }

    private boolean arePlaces(int a, int b) {
        return a >= 0 && a <= machine.programs[0].size && b >= 0 && b <= machine.programs[1].size;
    }

    private static boolean isOutcome(int values, int set) {
        return values >= 0 && values < 256 && set >= 0 && set < 16;
    }

    private boolean isTold() {
        if (!isWalked) {
            all.go(machine);
            isWalked = true;
        }
        return all.isTold;
    }

    /** The steps to the told walk's first state that is asked for; its row is kept for step(). */
    private int fewestSteps(boolean ends, int a, int b) {
        int found = firstState(ends, a, b);
        if (found == NONE) {
            return NONE;
        }
        rowSize = all.writeRow(found, row);
        return rowSize;
    }

    private int firstState(boolean ends, int a, int b) {
        if (!ends) {
            return all.first(PLACES_MASK, Machine.placesOf(a, b));
        }
        long words = wordsMask(b);
        return all.first(BEHIND_REGISTERS_MASK | words, machine.goodEnd() | (a & words));
    }

    private static long wordsMask(int set) {
        long mask = 0;
        for (int w = 0; w < WORDS; w++) {
            if ((set >> w & 1) != 0) {
                mask |= 3L << 2 * w;
            }
        }
        return mask;
    }

    /** As firstState(), with a fence more ahead of a statement; UNTOLD if that walk isn't told. */
    private int firstStateBehindFence(int host, int at, boolean ends, int a, int b) {
        Program plain = machine.programs[host];
        fenced.becomeFenced(plain, at);
        machine.programs[host] = fenced;
        all.go(machine);
        // The rows of the one walk now hold this one, not that of the told programs.
        isWalked = false;
        int found = UNTOLD;
        if (all.isTold && ends) {
            found = firstState(true, a, b);
        } else if (all.isTold) {
            // The statement behind the fence, and all after it, stand one place further on.
            found = firstState(false, host == 0 && a >= at ? a + 1 : a, host == 1 && b >= at ? b + 1 : b);
        }
        machine.programs[host] = plain;
        return found;
    }

    /** The statements of one host. */
    private static final class Program {
        // One more than a program can have, so that every number of three bits is an index.
        private static final int ROOM = 8;
        private static final int NUMBERS = 4;

        private static final int FAR_WORD = 1;
        private static final int OWN_WORD = 2;
        private static final int REGISTER = 3;
        private static final int VALUE = 4;
        private static final int COUNT = 5;

        // Four a sort, 0 where there is no number more.
        private static final int[] KINDS = {
            FAR_WORD, VALUE, 0, 0,
            FAR_WORD, REGISTER, 0, 0,
            FAR_WORD, VALUE, VALUE, REGISTER,
            FAR_WORD, VALUE, REGISTER, 0,
            0, 0, 0, 0,
            0, 0, 0, 0,
            OWN_WORD, VALUE, 0, 0,
            OWN_WORD, REGISTER, 0, 0,
            REGISTER, VALUE, COUNT, 0
        };

        int size = 0;
        final int[] sorts = new int[ROOM];
        private final int[] numbers = new int[ROOM * NUMBERS];

        static String nameOf(int sort) {
            switch (sort) {
                case PUT:
                    return "put";
                case GET:
                    return "get";
                case SWAP:
                    return "swap";
                case ADD:
                    return "add";
                case FENCE:
                    return "fence";
                case WAIT:
                    return "wait";
                case SET:
                    return "set";
                case LOAD:
                    return "load";
                default:
                    return "if";
            }
        }

        static int kindOf(int sort, int which) {
            if (sort < 0 || sort >= SORTS || which < 0 || which >= NUMBERS) {
                return 0;
            }
            return KINDS[sort * NUMBERS + which];
        }

        static int numbersOf(int sort) {
            int count = 0;
            while (count < NUMBERS && kindOf(sort, count) != 0) {
                count++;
            }
            return count;
        }

        static boolean isNumberOf(int kind, int number, int host) {
            switch (kind) {
                case FAR_WORD:
                    return number < WORDS && number / 2 != host;
                case OWN_WORD:
                    return number < WORDS && number / 2 == host;
                case REGISTER:
                    return number < 2;
                case VALUE:
                    return number < VALUES;
                default:
                    return number >= 1 && number <= STATEMENTS;
            }
        }

        int number(int i, int which) {
            return numbers[i * NUMBERS + which];
        }

        void setNumber(int i, int which, int number) {
            numbers[i * NUMBERS + which] = number;
        }

        /** Where the host is next if the statement, an if, leaves out what is behind it. */
        int placeBehindIf(int i) {
            return Math.min(i + 1 + number(i, 2), size);
        }

        void becomeFenced(Program plain, int at) {
            size = Math.min(plain.size + 1, STATEMENTS);
            for (int i = 0; i < size; i++) {
                if (i == at) {
                    sorts[i] = FENCE;
                } else {
                    copy(plain, i < at ? i : i - 1, i);
                }
            }
            for (int i = 0; i < at && i < size; i++) {
                // Who leaves out the statement leaves out its fence; who goes on at it does the fence.
                if (sorts[i] == IF && i + number(i, 2) >= at) {
                    setNumber(i, 2, number(i, 2) + 1);
                }
            }
        }

        private void copy(Program plain, int from, int to) {
            sorts[to] = plain.sorts[from];
            for (int which = 0; which < NUMBERS; which++) {
                setNumber(to, which, plain.number(from, which));
            }
        }
    }

    /** Makes a program of a text, or tells the text's first fault. */
    private static final class Reader {
        private static final int CANT_STAND = 1;
        private static final int WRONG_NUMBER = 2;
        private static final int TOO_MANY = 3;
        private static final int NO_SORT = -1;
        // Above every number that may be told: a longer one must not wrap round to one of them.
        private static final int LARGE = 1000;

        int fault = NONE;
        int place = NONE;
        private int sort = NO_SORT;
        private int given = 0;

        void read(byte[] text, int length, int host, Program into) {
            into.size = 0;
            sort = NO_SORT;
            fault = 0;
            place = NONE;
            int end = 0;
            for (int at = 0; at < length && fault == 0; at++) {
                if (at >= end && !isBlank(text[at])) {
                    end = tokenEnd(text, at, length);
                    take(text, at, end, host, into);
                }
            }
            if (fault == 0 && sort != NO_SORT) {
                refuse(CANT_STAND, length);
            }
        }

        private void refuse(int why, int at) {
            fault = why;
            place = at;
        }

        private void take(byte[] text, int at, int end, int host, Program into) {
            if (isLetter(text[at])) {
                takeName(text, at, end, into);
            } else if (isDigit(text[at])) {
                takeNumber(text, at, end, host, into);
            } else if (text[at] == ';' && sort != NO_SORT && given == Program.numbersOf(sort)) {
                sort = NO_SORT;
                into.size++;
            } else {
                refuse(CANT_STAND, at);
            }
        }

        private void takeName(byte[] text, int at, int end, Program into) {
            int named = sort == NO_SORT ? sortNamed(text, at, end) : NO_SORT;
            if (named == NO_SORT) {
                refuse(CANT_STAND, at);
            } else if (into.size >= STATEMENTS) {
                refuse(TOO_MANY, at);
            } else {
                sort = named;
                given = 0;
                into.sorts[into.size] = named;
            }
        }

        private void takeNumber(byte[] text, int at, int end, int host, Program into) {
            int kind = Program.kindOf(sort, given);
            int number = numberOf(text, at, end);
            if (kind == 0) {
                refuse(CANT_STAND, at);
            } else if (!Program.isNumberOf(kind, number, host)) {
                refuse(WRONG_NUMBER, at);
            } else {
                into.setNumber(into.size, given, number);
                given++;
            }
        }

        private static int sortNamed(byte[] text, int at, int end) {
            for (int named = 0; named < SORTS; named++) {
                if (isName(text, at, end, Program.nameOf(named))) {
                    return named;
                }
            }
            return NO_SORT;
        }

        private static boolean isName(byte[] text, int at, int end, String name) {
            if (end - at != name.length()) {
                return false;
            }
            for (int i = at; i < end; i++) {
                if (text[i] != name.charAt(i - at)) {
                    return false;
                }
            }
            return true;
        }

        private static int numberOf(byte[] text, int at, int end) {
            int number = 0;
            for (int i = at; i < end; i++) {
                number = Math.min(number * 10 + text[i] - '0', LARGE);
            }
            return number;
        }

        private static int tokenEnd(byte[] text, int at, int length) {
            int end = at + 1;
            if (isLetter(text[at])) {
                while (end < length && isLetter(text[end])) {
                    end++;
                }
            } else if (isDigit(text[at])) {
                while (end < length && isDigit(text[end])) {
                    end++;
                }
            }
            return end;
        }

        private static boolean isBlank(byte one) {
            return one == 32 || one == 10;
        }

        private static boolean isLetter(byte one) {
            return one >= 'a' && one <= 'z' || one >= 'A' && one <= 'Z';
        }

        private static boolean isDigit(byte one) {
            return one >= '0' && one <= '9';
        }
    }

    /** Both hosts as they are at the beginning, and what each step makes of a state. */
    private static final class Machine {
        final Program[] programs = {new Program(), new Program()};
        final int[] words = new int[WORDS];
        final int[] rights = {ALL_RIGHTS, ALL_RIGHTS, ALL_RIGHTS, ALL_RIGHTS};
        boolean mayFall = false;

        static long placesOf(int a, int b) {
            return (long) a << PLACES_AT | (long) b << PLACES_AT + 3;
        }

        long beginning() {
            long state = 0;
            for (int w = 0; w < WORDS; w++) {
                state |= (long) words[w] << 2 * w;
            }
            return state;
        }

        /** A good end but for its words and registers: all behind the places is 0, as queues are empty in every end. */
        long goodEnd() {
            return placesOf(programs[0].size, programs[1].size);
        }

        /** The state behind a step; NO_STATE if the step can't come. */
        long after(long state, int step) {
            if (step < FIRST_WISH) {
                return afterStatement(state, step);
            }
            if (step < FIRST_FALL) {
                int host = step < FIRST_WISH + QUEUE_PLACES ? 0 : 1;
                return afterWish(state, host, step - FIRST_WISH - host * QUEUE_PLACES);
            }
            if (!mayFall || bits(state, FELL_AT, 3) != 0) {
                return NO_STATE;
            }
            return state | 1L << FELL_AT + step - FIRST_FALL;
        }

        private long afterStatement(long state, int host) {
            int at = bits(state, PLACES_AT + 3 * host, 7);
            Program own = programs[host];
            if (at >= own.size || isStopped(state, host)) {
                return NO_STATE;
            }
            int queue = queueOf(state, host);
            long next = state + (1L << PLACES_AT + 3 * host);
            switch (own.sorts[at]) {
                case FENCE:
                    return hasGet(own, queue) ? NO_STATE : next;
                case WAIT:
                    return queue == 0 ? next : NO_STATE;
                case SET:
                    return with(next, 2 * own.number(at, 0), 3, own.number(at, 1));
                case LOAD:
                    return with(next, registerAt(host, own.number(at, 1)), 3, bits(state, 2 * own.number(at, 0), 3));
                case IF:
                    boolean isLike = bits(state, registerAt(host, own.number(at, 0)), 3) == own.number(at, 1);
                    return isLike ? with(next, PLACES_AT + 3 * host, 7, own.placeBehindIf(at)) : next;
                default:
                    return withWish(next, host, queue, at);
            }
        }

        private long afterWish(long state, int host, int place) {
            int queue = queueOf(state, host);
            int wish = wishAt(queue, place);
            if (wish == NONE || !mayBeDone(programs[host], queue, place)) {
                return NO_STATE;
            }
            boolean isOtherFallen = bits(state, FELL_AT + 1 - host, 1) != 0;
            if (isOtherFallen || !hasRight(programs[host], wish)) {
                return with(state, QUEUES_AT + QUEUE_BITS * host, 511, 0) | 1L << BROKEN_AT + host;
            }
            int ahead = queue & (1 << 3 * place) - 1;
            int behind = queue >> 3 * place + 3;
            int left = ahead | behind << 3 * place;
            return touched(with(state, QUEUES_AT + QUEUE_BITS * host, 511, left), host, wish);
        }

        /** What a wish with its right makes of words and registers. */
        private long touched(long state, int host, int wish) {
            Program own = programs[host];
            int wordAt = 2 * own.number(wish, 0);
            int old = bits(state, wordAt, 3);
            switch (own.sorts[wish]) {
                case PUT:
                    return with(state, wordAt, 3, own.number(wish, 1));
                case GET:
                    return with(state, registerAt(host, own.number(wish, 1)), 3, old);
                case SWAP:
                    long swapped = old == own.number(wish, 1) ? with(state, wordAt, 3, own.number(wish, 2)) : state;
                    return with(swapped, registerAt(host, own.number(wish, 3)), 3, old);
                default:
                    long added = with(state, wordAt, 3, old + own.number(wish, 1) & 3);
                    return with(added, registerAt(host, own.number(wish, 2)), 3, old);
            }
        }

        private boolean hasRight(Program own, int wish) {
            int w = own.number(wish, 0);
            if (w < 0 || w >= WORDS) {
                return false;
            }
            switch (own.sorts[wish]) {
                case PUT:
                    return (rights[w] & RIGHT_TO_PUT) != 0;
                case GET:
                    return (rights[w] & RIGHT_TO_GET) != 0;
                default:
                    return (rights[w] & RIGHT_TO_CHANGE) != 0;
            }
        }

        private static boolean isStopped(long state, int host) {
            return bits(state, BROKEN_AT + host, 1) != 0 || bits(state, FELL_AT + host, 1) != 0;
        }

        private static boolean isGet(Program own, int queue, int place) {
            int wish = wishAt(queue, place);
            return wish != NONE && own.sorts[wish] == GET;
        }

        private static boolean hasGet(Program own, int queue) {
            return isGet(own, queue, 0) || isGet(own, queue, 1) || isGet(own, queue, 2);
        }

        private static boolean mayBeDone(Program own, int queue, int place) {
            if (place > 0 && isGet(own, queue, place)) {
                return false;
            }
            for (int ahead = 0; ahead < place; ahead++) {
                if (!isGet(own, queue, ahead)) {
                    return false;
                }
            }
            return true;
        }

        private static long withWish(long state, int host, int queue, int wish) {
            for (int place = 0; place < QUEUE_PLACES; place++) {
                if (wishAt(queue, place) == NONE) {
                    return state | (long) (wish + 1) << QUEUES_AT + QUEUE_BITS * host + 3 * place;
                }
            }
            return NO_STATE;
        }

        private static int queueOf(long state, int host) {
            return bits(state, QUEUES_AT + QUEUE_BITS * host, 511);
        }

        /** The statement that a queue's wish is of; a queue keeps one more than its number, and 0 for NONE. */
        private static int wishAt(int queue, int place) {
            return (queue >> 3 * place & 7) - 1;
        }

        private static int registerAt(int host, int register) {
            return REGISTERS_AT + 4 * host + 2 * register;
        }

        private static int bits(long state, int at, int mask) {
            return (int) (state >>> at) & mask;
        }

        private static long with(long state, int at, int mask, int value) {
            return state & ~((long) mask << at) | (long) value << at;
        }
    }

    /**
     * All states that can come. They are found level by level, and within a level by the order of steps,
     * so that they stand in the order of their rows: the first of those asked for is always the one due.
     */
    private static final class Walk {
        private static final int LIMIT = 12000;
        private static final int SLOTS = 16384;
        private static final int SLOT_BITS = 14;
        // Most walks are small: the long rows are made only when one needs them.
        private static final int FEW = 700;
        private static final int FEW_SLOTS = 1024;
        private static final int LAST_STAMP = 100000;
        private static final long SCATTER = 0x9E3779B97F4A7C15L;

        private long[] states = new long[FEW];
        // Of each state the one ahead of it and, in the lowest four bits, the step between them.
        private int[] origins = new int[FEW];
        // By a state's hash: the stamp of the walk that wrote the slot, and in the lowest bits the state's index.
        private int[] slots = new int[FEW_SLOTS];
        private int stamp = 0;
        int count = 0;
        int ends = 0;
        int goodEnds = 0;
        int brokenEnds = 0;
        boolean isTold = false;

        void go(Machine machine) {
            clear();
            take(machine.beginning(), 0);
            for (int index = 0; index < LIMIT && index < count; index++) {
                long state = states[index];
                boolean isEnd = true;
                for (int step = 0; step < STEPS; step++) {
                    long next = machine.after(state, step);
                    if (next == NO_STATE) {
                        continue;
                    }
                    if (!take(next, index << 4 | step)) {
                        return;
                    }
                    isEnd = isEnd && step >= FIRST_FALL;
                }
                if (isEnd) {
                    countEnd(state, machine.goodEnd());
                }
            }
            isTold = true;
        }

        private void clear() {
            if (stamp >= LAST_STAMP) {
                Arrays.fill(slots, 0);
                stamp = 0;
            }
            stamp++;
            count = 0;
            ends = 0;
            goodEnds = 0;
            brokenEnds = 0;
            isTold = false;
        }

        private void countEnd(long state, long goodEnd) {
            ends++;
            if ((state & BEHIND_REGISTERS_MASK) == goodEnd) {
                goodEnds++;
            }
            if ((state >>> BROKEN_AT & 3) != 0) {
                brokenEnds++;
            }
        }

        /** False if the state is new and there is no room for it. */
        private boolean take(long state, int origin) {
            int slot = slotOf(state);
            if (isTaken(slot)) {
                return true;
            }
            if (count >= LIMIT) {
                return false;
            }
            if (count >= states.length) {
                makeLongRows();
                slot = slotOf(state);
            }
            states[count] = state;
            origins[count] = origin;
            slots[slot] = stamp << SLOT_BITS | count;
            count++;
            return true;
        }

        private void makeLongRows() {
            states = Arrays.copyOf(states, LIMIT);
            origins = Arrays.copyOf(origins, LIMIT);
            slots = new int[SLOTS];
            for (int index = 0; index < count; index++) {
                slots[slotOf(states[index])] = stamp << SLOT_BITS | index;
            }
        }

        /** The slot in which the state is, or the free one in which it would be. */
        private int slotOf(long state) {
            int mask = slots.length - 1;
            int slot = (int) (state * SCATTER >>> 40) & mask;
            for (int tries = 0; tries < mask; tries++) {
                if (!isTaken(slot) || states[slots[slot] & SLOTS - 1] == state) {
                    return slot;
                }
                slot = slot + 1 & mask;
            }
            return slot;
        }

        private boolean isTaken(int slot) {
            return slots[slot] >>> SLOT_BITS == stamp;
        }

        /** The first state that is as wanted where the mask has bits. */
        int first(long mask, long wanted) {
            for (int index = 0; index < count; index++) {
                if ((states[index] & mask) == wanted) {
                    return index;
                }
            }
            return NONE;
        }

        int mostSteps() {
            return stepsTo(count - 1);
        }

        private int stepsTo(int index) {
            int steps = 0;
            for (int at = index; at > 0 && steps < ROW_LIMIT; at = origins[at] >>> 4) {
                steps++;
            }
            return steps;
        }

        int writeRow(int index, int[] row) {
            int steps = stepsTo(index);
            int at = index;
            for (int i = Math.min(steps, row.length) - 1; i >= 0; i--) {
                row[i] = origins[at] & 15;
                at = origins[at] >>> 4;
            }
            return steps;
        }
    }
}
