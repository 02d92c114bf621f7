/**
 * The computer that guided ships to the moon, with its keys and lamps.
 *
 * <p>Numbers that begin with 0 are to the base 8, as in the document. Words have 15 bits, wide
 * numbers 16; both are held as the plain number of their bits.
 */
public final class GuidanceDesk {
    public static final int NONE = -1;

    private static final int HIGHEST_WORD = 077777;
    private static final int LAST_FIXED_BANK = 7;
    private static final int LAST_FIXED_PLACE = 01777;
    private static final int LAST_ERASABLE = 03777;
    private static final int LAST_CHANNEL = 0777;
    private static final int LAST_KEY = 31;
    private static final int FIRST_COUNTER = 20;
    private static final int LAST_COUNTER = 48;
    private static final int MOST_STEPS = 2000;
    private static final int LAST_ROW = 15;
    private static final int KEY_CHANNEL = 015;
    private static final int KEY_INTERRUPT = 5;
    private static final int LAST_INTERRUPT = 10;
    private static final int FIVE_LAMPS = 037;

    // The lamps that show the figures 0 to 9.
    private static final int[] FIGURES = {21, 3, 25, 27, 15, 30, 28, 19, 29, 31};

    private final Memory memory;
    private final Channels channels;
    private final Interrupts interrupts;
    private final Clock clock;
    private final Processor processor;

    public GuidanceDesk() {
        memory = new Memory();
        channels = new Channels(memory);
        interrupts = new Interrupts();
        clock = new Clock(memory, channels, interrupts);
        processor = new Processor(memory, channels, interrupts);
    }

    public int fix(int bank, int place, int word) throws IllegalArgumentException {
        demand(bank, 0, LAST_FIXED_BANK);
        demand(place, 0, LAST_FIXED_PLACE);
        demand(word, 0, HIGHEST_WORD);
        return memory.changeFixed(bank, place, word);
    }

    public int poke(int i, int word) throws IllegalArgumentException {
        demand(i, 0, LAST_ERASABLE);
        demand(word, 0, HIGHEST_WORD);
        int was = memory.get(i);
        memory.put(i, word);
        return was;
    }

    public int peek(int i) throws IllegalArgumentException {
        demand(i, 0, LAST_ERASABLE);
        return memory.get(i);
    }

    public int wide() {
        return memory.accumulator;
    }

    public int channel(int i) throws IllegalArgumentException {
        demand(i, 0, LAST_CHANNEL);
        return channels.get(i);
    }

    public void send(int i, int word) throws IllegalArgumentException {
        demand(i, 0, LAST_CHANNEL);
        demand(word, 0, HIGHEST_WORD);
        channels.put(i, word);
    }

    public void key(int key) throws IllegalArgumentException {
        demand(key, 0, LAST_KEY);
        channels.put(KEY_CHANNEL, key);
        interrupts.ask(KEY_INTERRUPT);
    }

    public boolean pulse(int i, boolean up) throws IllegalArgumentException {
        demand(i, FIRST_COUNTER, LAST_COUNTER);
        return memory.count(i, up ? Words.PLUS_ONE : Words.MINUS_ONE);
    }

    public void want(int n) throws IllegalArgumentException {
        demand(n, 1, LAST_INTERRUPT);
        interrupts.ask(n);
    }

    public int step(int n) throws IllegalArgumentException {
        demand(n, 0, MOST_STEPS);
        int taken = 0;
        for (int i = 0; i < n; i++) {
            int spent = processor.doNext();
            clock.pass(spent);
            taken += spent;
        }
        return taken;
    }

    public void restart() {
        processor.startAgain();
    }

    public long cycles() {
        return clock.counted;
    }

    public int told(int what) throws IllegalArgumentException {
        switch (what) {
            case 0:
                return interrupts.inhibited ? 1 : 0;
            case 1:
                return interrupts.goingOn ? 1 : 0;
            case 2:
                return interrupts.wanted;
            case 3:
                return processor.extended ? 1 : 0;
            case 4:
                return processor.added;
            case 5:
                return processor.alarms;
            default:
                throw new IllegalArgumentException("what is not 0 to 5");
        }
    }

    public int lamps(int row) throws IllegalArgumentException {
        demand(row, 0, LAST_ROW);
        return channels.lampsOf(row);
    }

    public int figure(int row, boolean right) throws IllegalArgumentException {
        demand(row, 0, LAST_ROW);
        int lit = channels.lampsOf(row);
        int shown = (right ? lit : lit >> 5) & FIVE_LAMPS;
        for (int i = 0; i < FIGURES.length; i++) {
            if (FIGURES[i] == shown) {
                return i;
            }
        }
        return NONE;
    }

    private static void demand(int value, int least, int most) {
        if (value < least || value > most) {
            throw new IllegalArgumentException("an argument is out of its range");
        }
    }

    /** Words, wide numbers, and sums of them. */
    private static final class Words {
        static final int WORD_BITS = 077777;
        static final int TOP_BIT = 040000;
        static final int LOW_BITS = 037777;
        static final int HIGHER_SIGN = 0100000;
        static final int WIDE_BITS = 0177777;
        static final int PLUS_ONE = 1;
        static final int MINUS_ONE = 0177776;

        static int widen(int word) {
            return word | ((word & TOP_BIT) << 1);
        }

        static int cut(int wide) {
            return ((wide & HIGHER_SIGN) >> 1) | (wide & LOW_BITS);
        }

        static int sum(int wide, int other) {
            int sum = wide + other;
            return sum > WIDE_BITS ? sum - WIDE_BITS : sum;
        }

        /** 1 for a positive overflow, -1 for a negative one, 0 for none. */
        static int overflow(int wide) {
            int sign = (wide >> 15) & 1;
            int second = (wide >> 14) & 1;
            return second - sign;
        }

        static boolean isZero(int wide) {
            return wide == 0 || wide == WIDE_BITS;
        }

        static boolean isNegative(int word) {
            return (word & TOP_BIT) != 0;
        }

        static int number(int word) {
            return isNegative(word) ? word - WORD_BITS : word;
        }

        static int turned(int word) {
            return WORD_BITS - word;
        }

        static int turnedIf(boolean turn, int word) {
            return turn ? turned(word) : word;
        }
    }

    /** Erasable and fixed words, and the registers among the erasable ones. */
    private static final class Memory {
        static final int A = 0;
        static final int L = 1;
        static final int Q = 2;
        static final int EB = 3;
        static final int FB = 4;
        static final int Z = 5;
        static final int BB = 6;
        static final int ALWAYS_ZERO = 7;
        static final int ZRUPT = 015;
        static final int BRUPT = 017;
        static final int ROUND_RIGHT = 020;
        static final int SHIFT_RIGHT = 021;
        static final int ROUND_LEFT = 022;
        static final int RIGHT_BY_SEVEN = 023;

        static final int ADDRESS_BITS = 07777;
        static final int ERASABLE_ADDRESS_BITS = 01777;

        private static final int ERASABLE_WORDS = 04000;
        private static final int ERASABLE_PLACE_BITS = 03777;
        private static final int FIXED_WORDS = 020000;
        private static final int FIXED_PLACE_BITS = 017777;
        private static final int FIXED_BANK = 02000;
        private static final int FIXED_BANKS = 8;
        private static final int ERASABLE_BANK = 0400;
        private static final int SWITCHED_ERASABLE = 01400;
        private static final int SWITCHED_FIXED = 02000;
        private static final int UNSWITCHED_FIXED = 04000;
        private static final int EB_BITS = 03400;
        private static final int FB_BITS = 076000;

        private final int[] erasable;
        private final int[] fixed;
        // A, as a wide number; the erasable word 0 behind it is not used.
        int accumulator;

        Memory() {
            erasable = new int[ERASABLE_WORDS];
            fixed = new int[FIXED_WORDS];
        }

        int changeFixed(int bank, int place, int word) {
            int i = (bank * FIXED_BANK + place) & FIXED_PLACE_BITS;
            int was = fixed[i];
            fixed[i] = word;
            return was;
        }

        int get(int i) {
            switch (i) {
                case A:
                    return Words.cut(accumulator);
                case BB:
                    return erasable[FB] | (erasable[EB] / ERASABLE_BANK);
                default:
                    return erasable[i & ERASABLE_PLACE_BITS];
            }
        }

        void put(int i, int word) {
            switch (i) {
                case A:
                    accumulator = Words.widen(word);
                    break;
                case BB:
                    erasable[FB] = word & FB_BITS;
                    erasable[EB] = (word & 7) * ERASABLE_BANK;
                    break;
                default:
                    erasable[i & ERASABLE_PLACE_BITS] = edited(i, word);
            }
        }

        private static int edited(int i, int word) {
            switch (i) {
                case EB:
                    return word & EB_BITS;
                case FB:
                    return word & FB_BITS;
                case Z:
                    return word & ADDRESS_BITS;
                case ALWAYS_ZERO:
                    return 0;
                case ROUND_RIGHT:
                    return (word >> 1) | ((word & 1) << 14);
                case SHIFT_RIGHT:
                    return (word >> 1) | (word & Words.TOP_BIT);
                case ROUND_LEFT:
                    return ((word << 1) & Words.WORD_BITS) | (word >> 14);
                case RIGHT_BY_SEVEN:
                    return (word >> 7) & 0177;
                default:
                    return word;
            }
        }

        int at(int address) {
            if (address < SWITCHED_FIXED) {
                return get(erasablePlace(address));
            }
            return fixed[fixedPlace(address) & FIXED_PLACE_BITS];
        }

        void writeAt(int address, int word) {
            if (address < SWITCHED_FIXED) {
                put(erasablePlace(address), word);
            }
        }

        int erasablePlace(int address) {
            return address < SWITCHED_ERASABLE ? address : erasable[EB] + address - SWITCHED_ERASABLE;
        }

        private int fixedPlace(int address) {
            // The unswitched addresses begin at bank 2, whose first word has the same number.
            if (address >= UNSWITCHED_FIXED) {
                return address;
            }
            int bank = erasable[FB] / FIXED_BANK % FIXED_BANKS;
            return bank * FIXED_BANK + address - SWITCHED_FIXED;
        }

        int z() {
            return erasable[Z];
        }

        void jump(int address) {
            erasable[Z] = address & ADDRESS_BITS;
        }

        /** Adds a wide number to an erasable word; answers whether that was an overflow. */
        boolean count(int i, int by) {
            int sum = Words.sum(Words.widen(get(i)), by);
            put(i, Words.cut(sum));
            return Words.overflow(sum) != 0;
        }

        /** Brings an erasable word nearer to 0; a 0 is left unwritten. */
        void diminish(int i) {
            int word = get(i);
            int number = Words.number(word);
            if (number != 0) {
                put(i, number > 0 ? word - 1 : word + 1);
            }
        }
    }

    /** Channels, and the rows of lamps behind one of them. */
    private static final class Channels {
        static final int TIMER_CHANNEL = 013;

        private static final int CHANNELS = 01000;
        private static final int CHANNEL_BITS = 0777;
        private static final int ALWAYS_ZERO = 0;
        private static final int L_CHANNEL = 1;
        private static final int Q_CHANNEL = 2;
        private static final int LAMP_CHANNEL = 010;
        private static final int FIRST_CLEARED = 5;
        private static final int LAST_CLEARED = 014;
        private static final int ROWS = 16;
        private static final int ROW_BITS = 017;
        private static final int LAMPS_OF_ROW = 03777;

        private final Memory memory;
        private final int[] words;
        private final int[] rows;

        Channels(Memory memory) {
            this.memory = memory;
            words = new int[CHANNELS];
            rows = new int[ROWS];
        }

        int get(int i) {
            switch (i) {
                case L_CHANNEL:
                    return memory.get(Memory.L);
                case Q_CHANNEL:
                    return memory.get(Memory.Q);
                default:
                    return words[i & CHANNEL_BITS];
            }
        }

        void put(int i, int word) {
            switch (i) {
                case ALWAYS_ZERO:
                    break;
                case L_CHANNEL:
                    memory.put(Memory.L, word);
                    break;
                case Q_CHANNEL:
                    memory.put(Memory.Q, word);
                    break;
                case LAMP_CHANNEL:
                    words[LAMP_CHANNEL] = word;
                    rows[(word >> 11) & ROW_BITS] = word & LAMPS_OF_ROW;
                    break;
                default:
                    words[i & CHANNEL_BITS] = word;
            }
        }

        int lampsOf(int row) {
            return rows[row & ROW_BITS];
        }

        // Past put, because a restart leaves the lamps as they are.
        void clear() {
            for (int i = FIRST_CLEARED; i <= LAST_CLEARED; i++) {
                words[i] = 0;
            }
        }
    }

    /** Which interrupts are wanted, and whether one may come. */
    private static final class Interrupts {
        boolean inhibited;
        boolean goingOn;
        // Bit n - 1 stands for interrupt n.
        int wanted;

        void ask(int n) {
            wanted |= 1 << (n - 1);
        }

        /** The interrupt that would come, 0 if none. */
        int first() {
            if (inhibited || goingOn) {
                return 0;
            }
            for (int n = 1; n <= LAST_INTERRUPT; n++) {
                if ((wanted & (1 << (n - 1))) != 0) {
                    return n;
                }
            }
            return 0;
        }

        void begin(int n) {
            wanted &= ~(1 << (n - 1));
            goingOn = true;
        }

        void clear() {
            inhibited = true;
            goingOn = false;
            wanted = 0;
        }
    }

    /** Counts the cycles and moves the counters that time moves. */
    private static final class Clock {
        private static final int TIME2 = 024;
        private static final int TIME1 = 025;
        private static final int TIME3 = 026;
        private static final int TIME4 = 027;
        private static final int TIME5 = 030;
        private static final int TIME6 = 031;
        private static final int TIME6_INTERRUPT = 1;
        private static final int TIME5_INTERRUPT = 2;
        private static final int TIME3_INTERRUPT = 3;
        private static final int TIME4_INTERRUPT = 4;

        private final Memory memory;
        private final Channels channels;
        private final Interrupts interrupts;
        long counted;

        Clock(Memory memory, Channels channels, Interrupts interrupts) {
            this.memory = memory;
            this.channels = channels;
            this.interrupts = interrupts;
        }

        void pass(int cycles) {
            for (int i = 0; i < cycles; i++) {
                counted++;
                tick((int) (counted & 0177));
            }
        }

        private void tick(int behind) {
            if (behind == 0) {
                if (memory.count(TIME1, Words.PLUS_ONE)) {
                    memory.count(TIME2, Words.PLUS_ONE);
                }
                moveTimer(TIME3, TIME3_INTERRUPT);
            } else if (behind == 0100) {
                moveTimer(TIME5, TIME5_INTERRUPT);
            } else if (behind == 0140) {
                moveTimer(TIME4, TIME4_INTERRUPT);
            }
            if ((behind & 7) == 0) {
                moveTime6();
            }
        }

        private void moveTimer(int timer, int interrupt) {
            if (memory.count(timer, Words.PLUS_ONE)) {
                interrupts.ask(interrupt);
            }
        }

        private void moveTime6() {
            int control = channels.get(Channels.TIMER_CHANNEL);
            if (!Words.isNegative(control)) {
                return;
            }
            memory.diminish(TIME6);
            if (Words.number(memory.get(TIME6)) == 0) {
                interrupts.ask(TIME6_INTERRUPT);
                channels.put(Channels.TIMER_CHANNEL, control & Words.LOW_BITS);
            }
        }
    }

    /** Takes instructions and does them. */
    private static final class Processor {
        private static final int START = 04000;
        private static final int INTERRUPT_CYCLES = 3;
        private static final int RELEASE = 3;
        private static final int INHIBIT = 4;
        private static final int EXTEND = 6;
        private static final int RESUME = 017;
        private static final int WRITE = 1;
        private static final int ALARM = 7;

        private final Memory memory;
        private final Channels channels;
        private final Interrupts interrupts;
        boolean extended;
        // What is added to the next instruction, NONE if nothing is.
        int added;
        int alarms;
        // The instruction that RESUME left to be done next, NONE if there is none.
        private int left;

        Processor(Memory memory, Channels channels, Interrupts interrupts) {
            this.memory = memory;
            this.channels = channels;
            this.interrupts = interrupts;
            added = NONE;
            left = NONE;
            memory.jump(START);
        }

        void startAgain() {
            memory.jump(START);
            interrupts.clear();
            extended = false;
            added = NONE;
            left = NONE;
            channels.clear();
        }

        /** Does an instruction, or lets an interrupt come; answers the cycles that it takes. */
        int doNext() {
            int interrupt = mayBeInterrupted() ? interrupts.first() : 0;
            if (interrupt != 0) {
                enter(interrupt);
                return INTERRUPT_CYCLES;
            }
            int word = take();
            boolean wasExtended = extended;
            extended = false;
            added = NONE;
            return wasExtended ? doExtended(word) : doPlain(word);
        }

        private boolean mayBeInterrupted() {
            return !extended && added == NONE && left == NONE
                    && Words.overflow(memory.accumulator) == 0;
        }

        private void enter(int interrupt) {
            interrupts.begin(interrupt);
            memory.put(Memory.ZRUPT, (memory.z() + 1) & Memory.ADDRESS_BITS);
            memory.put(Memory.BRUPT, memory.at(memory.z()));
            memory.jump(START + 4 * interrupt);
        }

        private int take() {
            int word = left;
            left = NONE;
            if (word == NONE) {
                word = memory.at(memory.z());
                memory.jump(memory.z() + 1);
            }
            if (added == NONE) {
                return word;
            }
            return Words.cut(Words.sum(Words.widen(word), Words.widen(added)));
        }

        // Each case is 4 times the code, and the part.
        private int doPlain(int word) {
            int k = word & Memory.ADDRESS_BITS;
            int e = word & Memory.ERASABLE_ADDRESS_BITS;
            switch (word >> 10) {
                case 000: case 001: case 002: case 003:
                    control(k);
                    return 1;
                case 004:
                    compare(e);
                    return 2;
                case 005: case 006: case 007:
                    memory.jump(k);
                    return 1;
                case 010:
                    addDouble(e);
                    return 3;
                case 011:
                    exchange(Memory.L, e);
                    return 2;
                case 012:
                    memory.count(memory.erasablePlace(e), Words.PLUS_ONE);
                    return 2;
                case 013:
                    addTo(memory.at(e));
                    memory.writeAt(e, memory.get(Memory.A));
                    return 2;
                case 014: case 015: case 016: case 017:
                    memory.put(Memory.A, memory.at(k));
                    return 2;
                case 020: case 021: case 022: case 023:
                    memory.put(Memory.A, Words.turned(memory.at(k)));
                    return 2;
                case 024:
                    addOrResume(k);
                    return 2;
                case 025:
                    exchange(Memory.L, behind(e));
                    exchange(Memory.A, e);
                    return 3;
                case 026:
                    store(e);
                    return 2;
                case 027:
                    exchange(Memory.A, e);
                    return 2;
                case 030: case 031: case 032: case 033:
                    addTo(memory.at(k));
                    return 2;
                default:
                    memory.put(Memory.A, memory.get(Memory.A) & memory.at(k));
                    return 2;
            }
        }

        // The cases are made as in doPlain.
        private int doExtended(int word) {
            int k = word & Memory.ADDRESS_BITS;
            int e = word & Memory.ERASABLE_ADDRESS_BITS;
            switch (word >> 10) {
                case 000: case 001: case 002: case 003:
                    useChannel(k >> 9, k & LAST_CHANNEL);
                    return 2;
                case 004:
                    divide(e);
                    return 6;
                case 005: case 006: case 007:
                    return jumpIf(Words.isZero(memory.accumulator), k);
                case 010:
                    subtractPlain(e);
                    return 2;
                case 011:
                    exchange(Memory.Q, e);
                    return 2;
                case 012:
                    augment(e);
                    return 2;
                case 013:
                    memory.diminish(memory.erasablePlace(e));
                    return 2;
                case 014: case 015: case 016: case 017:
                    takeDouble(k, false);
                    return 3;
                case 020: case 021: case 022: case 023:
                    takeDouble(k, true);
                    return 3;
                case 024: case 025: case 026: case 027:
                    added = memory.at(k);
                    extended = true;
                    return 2;
                case 030:
                    addTo(Words.turned(memory.at(e)));
                    return 2;
                case 031: case 032: case 033:
                    return jumpIf(isZeroOrBelow(memory.accumulator), k);
                default:
                    multiply(k);
                    return 3;
            }
        }

        private static int behind(int e) {
            return (e + 1) & Memory.ERASABLE_ADDRESS_BITS;
        }

        private static boolean isZeroOrBelow(int wide) {
            return wide == 0 || (wide & Words.HIGHER_SIGN) != 0;
        }

        private void addTo(int word) {
            memory.accumulator = Words.sum(memory.accumulator, Words.widen(word));
        }

        private void exchange(int register, int e) {
            int read = memory.at(e);
            memory.writeAt(e, memory.get(register));
            memory.put(register, read);
        }

        private int jumpIf(boolean jumps, int k) {
            if (!jumps) {
                return 2;
            }
            memory.jump(k);
            return 1;
        }

        private void control(int k) {
            switch (k) {
                case RELEASE:
                    interrupts.inhibited = false;
                    break;
                case INHIBIT:
                    interrupts.inhibited = true;
                    break;
                case EXTEND:
                    extended = true;
                    break;
                default:
                    memory.put(Memory.Q, memory.z());
                    memory.jump(k);
            }
        }

        private void compare(int e) {
            int x = e == Memory.A ? memory.accumulator : Words.widen(memory.at(e));
            boolean below = (x & Words.HIGHER_SIGN) != 0;
            int size = below ? Words.WIDE_BITS - x : x;
            memory.accumulator = size == 0 ? 0 : size - 1;
            memory.jump(memory.z() + (below ? 2 : 0) + (size == 0 ? 1 : 0));
        }

        private void addDouble(int e) {
            int l = Words.widen(memory.get(Memory.L));
            int low = Words.sum(l, Words.widen(memory.at(behind(e))));
            int high = Words.sum(memory.accumulator, Words.widen(memory.at(e)));
            high = Words.sum(high, unit(Words.overflow(low)));
            memory.writeAt(behind(e), Words.cut(low));
            memory.writeAt(e, Words.cut(high));
            memory.put(Memory.L, 0);
            memory.accumulator = unit(Words.overflow(high));
        }

        /** 1, -1 or 0 as a wide number. */
        private static int unit(int overflow) {
            return overflow < 0 ? Words.MINUS_ONE : overflow;
        }

        private void addOrResume(int k) {
            if (k != RESUME) {
                added = memory.at(k);
                return;
            }
            memory.jump(memory.get(Memory.ZRUPT));
            left = memory.get(Memory.BRUPT);
            interrupts.goingOn = false;
        }

        private void store(int e) {
            int overflow = Words.overflow(memory.accumulator);
            memory.writeAt(e, memory.get(Memory.A));
            if (overflow != 0) {
                memory.jump(memory.z() + 1);
                memory.accumulator = unit(overflow);
            }
        }

        // An odd way writes the channel, and all but the first odd one change A.
        private void useChannel(int way, int i) {
            if (way == ALARM) {
                alarms++;
                startAgain();
                return;
            }
            int result = joined(way, memory.get(Memory.A), channels.get(i));
            if (way != WRITE) {
                memory.put(Memory.A, result);
            }
            if (way % 2 == 1) {
                channels.put(i, result);
            }
        }

        private static int joined(int way, int a, int word) {
            switch (way) {
                case 0:
                    return word;
                case WRITE:
                    return a;
                case 2: case 3:
                    return a & word;
                case 4: case 5:
                    return a | word;
                default:
                    return a ^ word;
            }
        }

        private void divide(int e) {
            int first = memory.get(Memory.A);
            int divisor = memory.at(e);
            int dividend = Words.number(first) * 040000 + Words.number(memory.get(Memory.L));
            int size = Math.abs(dividend);
            int by = Math.abs(Words.number(divisor));
            if (by == 0 || size >= by * 040000) {
                boolean differ = Words.isNegative(first) != Words.isNegative(divisor);
                memory.put(Memory.A, Words.turnedIf(differ, Words.LOW_BITS));
                return;
            }
            boolean below = dividend == 0 ? Words.isNegative(first) : dividend < 0;
            memory.put(Memory.A, Words.turnedIf(below != Words.isNegative(divisor), size / by));
            memory.put(Memory.L, Words.turnedIf(below, size % by));
        }

        private void multiply(int k) {
            int product = Words.number(memory.get(Memory.A)) * Words.number(memory.at(k));
            int size = Math.abs(product);
            memory.put(Memory.A, Words.turnedIf(product < 0, size / 040000));
            memory.put(Memory.L, Words.turnedIf(product < 0, size % 040000));
        }

        private void subtractPlain(int e) {
            int rest = (memory.get(Memory.A) - memory.at(e)) & Words.WORD_BITS;
            memory.put(Memory.A, Words.isNegative(rest) ? rest - 1 : rest);
        }

        private void augment(int e) {
            int place = memory.erasablePlace(e);
            boolean below = Words.isNegative(memory.get(place));
            memory.count(place, below ? Words.MINUS_ONE : Words.PLUS_ONE);
        }

        private void takeDouble(int k, boolean turn) {
            int next = (k + 1) & Memory.ADDRESS_BITS;
            memory.put(Memory.L, Words.turnedIf(turn, memory.at(next)));
            memory.put(Memory.A, Words.turnedIf(turn, memory.at(k)));
        }
    }
}
