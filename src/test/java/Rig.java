/** A desk with words set into it by short calls, so that a test can be read as a program. */
final class Rig {
    static final int A = 0;
    static final int L = 1;
    static final int Q = 2;
    static final int EB = 3;
    static final int FB = 4;
    static final int Z = 5;
    static final int BB = 6;
    static final int ZRUPT = 015;
    static final int BRUPT = 017;

    static final int RELEASE = 3;
    static final int INHIBIT = 4;
    static final int EXTEND = 6;
    static final int RESUME = 050017;

    private static final int START = 04000;
    private static final int SCRATCH = 01377;
    private static final int ADD_SCRATCH = 060000 + SCRATCH;
    private static final int LAST_ADDRESS = 07777;

    final GuidanceDesk desk = new GuidanceDesk();

    /** Sets words into the fixed memory from address 04000 on. */
    Rig program(int... words) {
        return programAt(START, words);
    }

    /** Sets words into the fixed memory from an address that no bank moves. */
    Rig programAt(int address, int... words) {
        for (int i = 0; i < words.length; i++) {
            int at = address + i;
            desk.fix(at / 02000, at % 02000, words[i]);
        }
        return this;
    }

    Rig poke(int i, int word) {
        desk.poke(i, word);
        return this;
    }

    /** Makes A a wide number, by sums where it has an overflow; Z becomes 04000 then. */
    Rig wide(int x) {
        boolean below = x >= 0100000;
        int size = below ? 0177777 - x : x;
        poke(A, signed(below, Math.min(size, 037777)));
        if (size <= 037777) {
            return this;
        }
        int was = desk.fix(3, 01777, ADD_SCRATCH);
        int rest = size - 037777;
        addToA(signed(below, rest - 1));
        addToA(signed(below, 1));
        desk.fix(3, 01777, was);
        return poke(SCRATCH, 0).poke(Z, START);
    }

    private static int signed(boolean below, int size) {
        return below ? 077777 - size : size;
    }

    private void addToA(int word) {
        poke(SCRATCH, word).poke(Z, LAST_ADDRESS).run(1);
    }

    Rig run(int n) {
        desk.step(n);
        return this;
    }

    /** Does one instruction, at 04000. */
    GuidanceDesk does(int word) {
        return program(word).run(1).desk;
    }

    /** Does one instruction at an address that no bank moves. */
    GuidanceDesk doesAt(int address, int word) {
        return programAt(address, word).poke(Z, address).run(1).desk;
    }

    /** Does one extended instruction, at 04001 behind the one that extends it. */
    GuidanceDesk doesExtended(int word) {
        return program(EXTEND, word).run(2).desk;
    }

    static int turned(int word) {
        return 077777 - word;
    }

    /** A word as a wide number. */
    static int widened(int word) {
        return word < 040000 ? word : word + 0100000;
    }
}
