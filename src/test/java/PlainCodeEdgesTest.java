/** Promise 11, by the terms of an instruction: the boundary cases of the codes that are not extended. */
public final class PlainCodeEdgesTest {
    private static final int X = 0100;
    private static final int MINUS_ONE = 0177776;
    private static final int ADD_DOUBLE = 020000;

    private static final Check CHECK = new Check();

    public static void main(String[] args) {
        zGoesRound();
        takenBeforeZMoves();
        partsAndErasableAddress();
        accumulatorAsAWord();
        orders();
        calls();
        compareWords();
        compareTheAccumulator();
        compareSkipsRound();
        jumps();
        addDoubleCarries();
        addDoubleOverflows();
        addDoubleGoesRound();
        addDoubleInOrder();
        addDoubleInOrderThroughABank();
        addDoubleOfTheAccumulator();
        exchangeL();
        exchangeLWithRegisters();
        count();
        addToMemory();
        takeAndTurnTheAccumulator();
        add();
        mask();
        resumeOnlyAt017();
        resumeToZrupt();
        resumeLeavesAWord();
        addedSumIsCut();
        exchangeDouble();
        exchangeDoubleThroughABank();
        exchangeDoubleGoesRound();
        store();
        storeSkipsRound();
        exchangeA();
        CHECK.end();
    }

    private static void zGoesRound() {
        CHECK.sentence("Promise 11, an instruction",
                "The instruction at address Z is taken, Z becomes one more (modulo 010000), then it is done.");
        CHECK.due("Z behind 07777", new Rig().doesAt(07777, 030000 + X).peek(Rig.Z), 0);
        CHECK.due("Z behind 07776", new Rig().doesAt(07776, 030000 + X).peek(Rig.Z), 07777);
        CHECK.due("Z, taken at 07777", new Rig().doesAt(07777, 030005).peek(Rig.A), 0);
        GuidanceDesk desk = new Rig().poke(Rig.A, 024000 + X).doesAt(07777, 024000 + X);
        desk.step(1);
        CHECK.due("the word at address 0, A, is done then", desk.peek(X), 2);
        CHECK.due("Z behind address 0", desk.peek(Rig.Z), 1);
    }

    private static void takenBeforeZMoves() {
        CHECK.sentence("Promise 11, an instruction",
                "The instruction at address Z is taken, Z becomes one more (modulo 010000), then it is done.");
        // At address 5 stands Z itself: 5 is taken, a call of 5; one more would be 6, which extends.
        GuidanceDesk desk = new Rig().poke(Rig.Z, Rig.Z).run(1).desk;
        CHECK.due("Z", desk.peek(Rig.Z), 5);
        CHECK.due("Q, Z and one more", desk.peek(Rig.Q), 6);
        CHECK.due("extended", desk.told(3), 0);
    }

    private static void partsAndErasableAddress() {
        CHECK.sentence("Promise 11, an instruction",
                "three bits CODE, twelve bits K; of these the highest two are PART. E is K modulo 02000.");
        Rig rig = new Rig().poke(Rig.EB, 03400).poke(Rig.A, 5).poke(03777, 6);
        CHECK.due("the greatest E, part 3", rig.does(057777).peek(03777), 5);
        rig = new Rig().poke(Rig.EB, 03400).poke(Rig.A, 5).poke(03777, 6);
        CHECK.due("the greatest E, part 2", rig.does(055777).peek(03777), 5);
        rig = new Rig().poke(Rig.EB, 03400).poke(03777, 6);
        CHECK.due("the greatest E, part 0", rig.does(051777).told(4), 6);
        CHECK.due("the least E, part 3", new Rig().wide(040005).does(056000).wide(), 5);
    }

    private static void accumulatorAsAWord() {
        CHECK.sentence("Promise 11, an instruction", "[K] is what is at address K, as a word (so of A what it"
                + " is, cut); made wide where it goes to A or into a sum.");
        CHECK.due("A taken with a positive overflow", new Rig().wide(077777).does(030000).wide(), 037777);
        CHECK.due("A taken with a negative overflow", new Rig().wide(0100000).does(030000).wide(), 0140000);
        CHECK.due("A and A cut", new Rig().wide(040001).does(060000).wide(), 040002);
        CHECK.due("A and A cut, below", new Rig().wide(0137776).does(060000).wide(), 0137775);
        CHECK.due("a word with the highest bit", new Rig().poke(X, 040000).does(030000 + X).wide(), 0140000);
        CHECK.due("a sum with such a word", new Rig().poke(X, 040000).does(060000 + X).wide(), 0140000);
    }

    private static void orders() {
        CHECK.sentence("Promise 11, code 0", "K = 3: interrupts are no longer inhibited; 4: they are; 6: the"
                + " next one is EXTENDED");
        for (int k : new int[] {3, 4, 6}) {
            Rig rig = new Rig().poke(Rig.Q, 9);
            CHECK.due("cycles of " + k, rig.program(k).desk.step(1), 1);
            CHECK.due("Q of " + k, rig.desk.peek(Rig.Q), 9);
            CHECK.due("Z of " + k, rig.desk.peek(Rig.Z), 04001);
            CHECK.due("inhibited by " + k, rig.desk.told(0), k == 4 ? 1 : 0);
            CHECK.due("extended by " + k, rig.desk.told(3), k == 6 ? 1 : 0);
        }
        Rig rig = new Rig().program(4, 4, 3, 3);
        CHECK.due("inhibited twice", rig.run(2).desk.told(0), 1);
        CHECK.due("no longer, by one", rig.run(1).desk.told(0), 0);
        CHECK.due("no longer, by another", rig.run(1).desk.told(0), 0);
    }

    private static void calls() {
        CHECK.sentence("Promise 11, code 0", "else: Q becomes Z, Z becomes K.");
        for (int k : new int[] {0, 2, 5, 7, 01777, 02000, 02003, 04004, 06006, 07777}) {
            GuidanceDesk desk = new Rig().does(k);
            CHECK.due("Z of " + k, desk.peek(Rig.Z), k);
            CHECK.due("Q of " + k, desk.peek(Rig.Q), 04001);
            CHECK.due("inhibited by " + k, desk.told(0), 0);
            CHECK.due("extended by " + k, desk.told(3), 0);
        }
        CHECK.due("Q at 07777", new Rig().poke(Rig.Q, 5).doesAt(07777, 0123).peek(Rig.Q), 0);
    }

    private static void compareWords() {
        CHECK.sentence("Promise 11, code 1, part 0", "A becomes the absolute value of x less 1, or 0 if x is +0"
                + " or -0; Z is one more if x is +0, two if x is below -0, three if x is -0");
        compared(new Rig().poke(X, 037777), 010000 + X, 037776, 0);
        compared(new Rig().poke(X, 2), 010000 + X, 1, 0);
        compared(new Rig().poke(X, 1), 010000 + X, 0, 0);
        compared(new Rig().poke(X, 0), 010000 + X, 0, 1);
        compared(new Rig().poke(X, 077777), 010000 + X, 0, 3);
        compared(new Rig().poke(X, 077776), 010000 + X, 0, 2);
        compared(new Rig().poke(X, 077775), 010000 + X, 1, 2);
        compared(new Rig().poke(X, 040000), 010000 + X, 037776, 2);
    }

    private static void compareTheAccumulator() {
        CHECK.sentence("Promise 11, code 1, part 0", "x is [E], made wide (where E is 0, A itself)");
        compared(new Rig().wide(0), 010000, 0, 1);
        compared(new Rig().wide(0177777), 010000, 0, 3);
        compared(new Rig().wide(040000), 010000, 037777, 0);
        compared(new Rig().wide(077777), 010000, 077776, 0);
        compared(new Rig().wide(0137777), 010000, 037777, 2);
        compared(new Rig().wide(0100000), 010000, 077776, 2);
        // At the switched address of A it is a word like others.
        compared(new Rig().wide(040000), 011400, 0, 1);
        compared(new Rig().wide(0137777), 011400, 0, 3);
    }

    private static void compared(Rig rig, int word, int dueA, int skipped) {
        CHECK.due("cycles of comparing", rig.program(word).desk.step(1), 2);
        CHECK.due("A of comparing", rig.desk.wide(), dueA);
        CHECK.due("Z of comparing", rig.desk.peek(Rig.Z), 04001 + skipped);
    }

    private static void compareSkipsRound() {
        CHECK.sentence("Promise 11, code 1, part 0",
                "Z is one more if x is +0, two if x is below -0, three if x is -0 (modulo 010000).");
        int[] words = {1, 0, 077776, 077777};
        for (int skipped = 0; skipped <= 3; skipped++) {
            for (int address = 07773; address <= 07777; address++) {
                GuidanceDesk desk = new Rig().poke(X, words[skipped]).doesAt(address, 010000 + X);
                int due = (address + 1 + skipped) % 010000;
                CHECK.due("Z from " + address + " and " + skipped, desk.peek(Rig.Z), due);
            }
        }
    }

    private static void jumps() {
        CHECK.sentence("Promise 11, code 1", "Other parts (1): Z becomes K.");
        for (int k : new int[] {02000, 03777, 04000, 05777, 06000, 07777}) {
            Rig rig = new Rig().poke(Rig.Q, 9).program(010000 + k);
            CHECK.due("cycles", rig.desk.step(1), 1);
            CHECK.due("Z", rig.desk.peek(Rig.Z), k);
            CHECK.due("Q", rig.desk.peek(Rig.Q), 9);
        }
    }

    private static void addDoubleCarries() {
        CHECK.sentence("Promise 11, code 2, part 0", "x is the sum of L and [E + 1]; y the sum of A and [E], and"
                + " 1 after that if x has a positive overflow, -1 if a negative one");
        addDouble(5, 037776, 6, 1, 11, 037777, 0);
        addDouble(5, 037777, 6, 1, 12, 0, 0);
        addDouble(5, 037777, 6, 037777, 12, 037776, 0);
        addDouble(5, 040001, 6, 077776, 11, 040000, 0);
        addDouble(5, 040000, 6, 077776, 10, 077777, 0);
        addDouble(5, 040000, 6, 040000, 10, 040001, 0);
        addDouble(1, 040000, 0, 077776, 077777, 077777, 0);
        addDouble(0177777, 037777, 0, 1, 1, 0, 0);
    }

    private static void addDoubleOverflows() {
        CHECK.sentence("Promise 11, code 2, part 0", "[E + 1] becomes x cut, then [E] y cut; then L becomes 0, A 1,"
                + " -1 or 0 as y has an overflow, positive or negative, or none.");
        addDouble(037776, 0, 1, 0, 037777, 0, 0);
        addDouble(037777, 0, 1, 0, 0, 0, 1);
        addDouble(037777, 0, 037777, 0, 037776, 0, 1);
        addDouble(0140001, 0, 077776, 0, 040000, 0, 0);
        addDouble(0140000, 0, 077776, 0, 077777, 0, MINUS_ONE);
        addDouble(0140000, 0, 040000, 0, 040001, 0, MINUS_ONE);
        // The 1 or -1 after it may bring the overflow, or take it away.
        addDouble(037777, 037777, 0, 1, 0, 0, 1);
        addDouble(0140000, 040000, 0, 077776, 077777, 077777, MINUS_ONE);
        addDouble(037777, 040000, 1, 077776, 037777, 077777, 0);
        addDouble(0140000, 037777, 077776, 1, 040000, 0, 0);
        addDouble(040000, 0, 0, 0, 0, 0, 1);
        addDouble(0137777, 0, 0, 0, 077777, 0, MINUS_ONE);
        addDouble(077777, 037777, 0, 1, 040000, 0, MINUS_ONE);
    }

    private static void addDouble(int a, int l, int e, int next, int dueE, int dueNext, int dueA) {
        Rig rig = new Rig().wide(a).poke(Rig.L, l).poke(X, e).poke(X + 1, next).program(ADD_DOUBLE + X);
        String what = " of " + a + " " + l + " and " + e + " " + next;
        CHECK.due("cycles" + what, rig.desk.step(1), 3);
        CHECK.due("[E]" + what, rig.desk.peek(X), dueE);
        CHECK.due("[E + 1]" + what, rig.desk.peek(X + 1), dueNext);
        CHECK.due("A" + what, rig.desk.wide(), dueA);
        CHECK.due("L" + what, rig.desk.peek(Rig.L), 0);
    }

    private static void addDoubleGoesRound() {
        CHECK.sentence("Promise 11, code 2, part 0", "(E + 1 modulo 02000, here and in the following.)");
        // Behind E = 01777 comes A: x is the sum of L and A cut.
        GuidanceDesk desk = new Rig().poke(Rig.EB, 0400).wide(5).poke(Rig.L, 037777).poke(0777, 7)
                .does(ADD_DOUBLE + 01777);
        CHECK.due("[01777]", desk.peek(0777), 13);
        CHECK.due("A", desk.wide(), 0);
        CHECK.due("L", desk.peek(Rig.L), 0);
        desk = new Rig().poke(Rig.EB, 0400).poke(Rig.L, 3).poke(Rig.Q, 2).poke(0777, 7).does(ADD_DOUBLE + 01776);
        CHECK.due("[E + 1] of E = 01776", desk.peek(0777), 10);
        CHECK.due("no word in the next bank", desk.peek(01000), 0);
    }

    private static void addDoubleInOrder() {
        CHECK.sentence("Promise 11, code 2, part 0", "[E + 1] becomes x cut, then [E] y cut; then L becomes 0");
        GuidanceDesk desk = new Rig().wide(020000).poke(Rig.L, 3).does(ADD_DOUBLE);
        CHECK.due("A with itself", desk.wide(), 1);
        CHECK.due("L with itself", desk.peek(Rig.L), 0);
        desk = new Rig().wide(2).poke(Rig.L, 3).poke(Rig.Q, 4).does(ADD_DOUBLE + 1);
        CHECK.due("Q with L", desk.peek(Rig.Q), 7);
        CHECK.due("L with A, 0 at last", desk.peek(Rig.L), 0);
        CHECK.due("A with L", desk.wide(), 0);
    }

    private static void addDoubleInOrderThroughABank() {
        CHECK.sentence("Promise 11, code 2, part 0", "[E + 1] becomes x cut, then [E] y cut");
        // [01403] is EB in bank 0, and moves what [01402] is, from Q to 0402.
        GuidanceDesk desk = new Rig().poke(Rig.A, 5).poke(Rig.L, 0400).poke(Rig.Q, 7).poke(0402, 011)
                .does(ADD_DOUBLE + 01402);
        CHECK.due("EB is x", desk.peek(Rig.EB), 0400);
        CHECK.due("[01402] in the new bank is y, the sum of A and Q", desk.peek(0402), 014);
        CHECK.due("[01402] in the old bank", desk.peek(Rig.Q), 7);
        desk = new Rig().poke(Rig.A, 0400).poke(Rig.L, 02000).does(ADD_DOUBLE + 01403);
        CHECK.due("FB, [01404] while EB is 0", desk.peek(Rig.FB), 02000);
        CHECK.due("EB then", desk.peek(Rig.EB), 0400);
        CHECK.due("[01404] in the new bank", desk.peek(0404), 0);
    }

    private static void addDoubleOfTheAccumulator() {
        CHECK.sentence("Promise 11, code 2, part 0",
                "[K] is what is at address K, as a word (so of A what it is, cut)");
        CHECK.due("040001 and 1", new Rig().wide(040001).does(ADD_DOUBLE).wide(), 1);
        CHECK.due("0137776 and -1", new Rig().wide(0137776).does(ADD_DOUBLE).wide(), MINUS_ONE);
    }

    private static void exchangeL() {
        CHECK.sentence("Promise 11, code 2, part 1", "L and [E] change places.");
        GuidanceDesk desk = new Rig().poke(Rig.L, 077777).poke(X, 0).does(022000 + X);
        CHECK.due("L", desk.peek(Rig.L), 0);
        CHECK.due("[E]", desk.peek(X), 077777);
    }

    private static void exchangeLWithRegisters() {
        CHECK.sentence("Promise 11, code 2", "(Where two change places, first the memory gets what the register"
                + " had, then the register what was read before.)");
        CHECK.due("L with itself", new Rig().poke(Rig.L, 5).does(022001).peek(Rig.L), 5);
        GuidanceDesk desk = new Rig().poke(Rig.L, 077777).does(022005);
        CHECK.due("L with Z", desk.peek(Rig.L), 04001);
        CHECK.due("Z with L", desk.peek(Rig.Z), 07777);
        desk = new Rig().poke(Rig.L, 5).does(022007);
        CHECK.due("L with the word that is always 0", desk.peek(Rig.L), 0);
        desk = new Rig().wide(0137776).poke(Rig.L, 0).does(022000);
        CHECK.due("L with A cut", desk.peek(Rig.L), 077776);
        CHECK.due("A with L", desk.wide(), 0);
    }

    private static void count() {
        CHECK.sentence("Promise 11, code 2, part 2", "[E] becomes the sum of it and 1, cut.");
        int[] from = {0, 037776, 037777, 040000, 077775, 077776, 077777};
        int[] to = {1, 037777, 0, 040001, 077776, 077777, 1};
        for (int i = 0; i < from.length; i++) {
            CHECK.due("from " + from[i], new Rig().poke(X, from[i]).does(024000 + X).peek(X), to[i]);
            CHECK.due("A from " + from[i], new Rig().poke(Rig.A, from[i]).does(024000).wide(), Rig.widened(to[i]));
        }
        CHECK.due("A with an overflow, cut first", new Rig().wide(077777).does(024000).wide(), 0);
        CHECK.due("A with a negative overflow", new Rig().wide(0137777).does(024000).wide(), 1);
        GuidanceDesk desk = new Rig().poke(025, 037777).does(024025);
        CHECK.due("a counter goes round", desk.peek(025), 0);
        CHECK.due("without the counter behind it", desk.peek(024), 0);
        CHECK.due("and wants nothing", new Rig().poke(026, 037777).does(024026).told(2), 0);
    }

    private static void addToMemory() {
        CHECK.sentence("Promise 11, code 2, part 3", "A becomes the sum of A and [E], and then [E] that, cut.");
        int[][] sums = {
            {037776, 1, 037777, 037777}, {037777, 1, 040000, 0}, {077777, 1, 0100000, 040000},
            {0140000, 077776, 0137777, 077777}, {0100000, 077777, 0100000, 040000},
            {0177777, 1, 1, 1}, {1, 077776, 0177777, 077777}, {040000, 077776, 037777, 037777}};
        for (int[] sum : sums) {
            GuidanceDesk desk = new Rig().wide(sum[0]).poke(X, sum[1]).does(026000 + X);
            CHECK.due("A of " + sum[0] + " and " + sum[1], desk.wide(), sum[2]);
            CHECK.due("[E] of " + sum[0] + " and " + sum[1], desk.peek(X), sum[3]);
        }
        CHECK.due("A and itself, cut at last", new Rig().wide(037777).does(026000).wide(), 037776);
        CHECK.due("A and what is always 0", new Rig().wide(5).does(026007).wide(), 5);
    }

    private static void takeAndTurnTheAccumulator() {
        CHECK.sentence("Promise 11, codes 3 and 4", "3 (2): A becomes [K]. 4 (2): A becomes [K] turned.");
        CHECK.due("A of A with an overflow", new Rig().wide(040000).does(030000).wide(), 0);
        CHECK.due("A turned with a positive overflow", new Rig().wide(040000).does(040000).wide(), 0177777);
        CHECK.due("A turned with a negative overflow", new Rig().wide(0137777).does(040000).wide(), 0);
        for (int word : new int[] {0, 037777, 040000, 077777}) {
            CHECK.due("the last address", new Rig().programAt(07777, word).does(037777).peek(Rig.A), word);
            int due = Rig.turned(word);
            CHECK.due("the last address turned", new Rig().programAt(07777, word).does(047777).peek(Rig.A), due);
        }
    }

    private static void add() {
        CHECK.sentence("Promise 11, code 6", "6 (2): A becomes the sum of A and [K].");
        CHECK.due("to an overflow", new Rig().wide(037777).poke(X, 1).does(060000 + X).wide(), 040000);
        CHECK.due("and back", new Rig().wide(040000).poke(X, 077776).does(060000 + X).wide(), 037777);
        CHECK.due("with the last address", new Rig().wide(1).programAt(07777, 5).does(067777).wide(), 6);
    }

    private static void mask() {
        CHECK.sentence("Promise 11, code 7", "7 (2): A becomes those bits that A cut and [K] both have.");
        CHECK.due("all bits", new Rig().wide(0177777).poke(X, 077777).does(070000 + X).wide(), 0177777);
        CHECK.due("no bits", new Rig().wide(025252).poke(X, 052525).does(070000 + X).wide(), 0);
        CHECK.due("the sign alone", new Rig().wide(0165252).poke(X, 052525).does(070000 + X).wide(), 0140000);
        CHECK.due("a positive overflow", new Rig().wide(077777).poke(X, 077777).does(070000 + X).wide(), 037777);
        CHECK.due("a negative one", new Rig().wide(0100000).poke(X, 077777).does(070000 + X).wide(), 0140000);
        CHECK.due("A and A", new Rig().wide(040005).does(070000).wide(), 5);
    }

    private static void resumeOnlyAt017() {
        CHECK.sentence("Promise 11, code 5, part 0", "K = 017: RESUME");
        for (int k : new int[] {016, 020, 0117, 01417}) {
            GuidanceDesk desk = new Rig().poke(Rig.ZRUPT, 0777).poke(k == 01417 ? 017 : k, 6).does(050000 + k);
            CHECK.due("Z of " + k, desk.peek(Rig.Z), 04001);
            CHECK.due("added of " + k, desk.told(4), k == 020 ? 3 : 6);
        }
        GuidanceDesk desk = new Rig().poke(Rig.ZRUPT, 0777).poke(017, 6).does(050017);
        CHECK.due("Z of 017", desk.peek(Rig.Z), 0777);
        CHECK.due("added of 017", desk.told(4), GuidanceDesk.NONE);
        desk = new Rig().poke(Rig.ZRUPT, 0777).poke(Rig.A, 6).does(056017);
        CHECK.due("another part with 017", desk.peek(017), 6);
    }

    private static void resumeToZrupt() {
        CHECK.sentence("Promise 11, code 5, part 0", "Z becomes ZRUPT");
        for (int word : new int[] {0, 07777, 010000, 077777}) {
            CHECK.due("Z of " + word, new Rig().poke(Rig.ZRUPT, word).does(050017).peek(Rig.Z), word & 07777);
        }
    }

    private static void resumeLeavesAWord() {
        CHECK.sentence("Promise 11, code 5, part 0", "the next instruction is the word that BRUPT has now (in place"
                + " of what Z would tell; Z is not made one more for it)");
        Rig rig = new Rig().programAt(07777, 024000 + X).poke(Rig.ZRUPT, 07777).poke(Rig.BRUPT, 030005);
        rig.does(050017);
        rig.poke(Rig.BRUPT, 024000 + X);
        CHECK.due("cycles of the word", rig.desk.step(1), 2);
        CHECK.due("Z that it takes", rig.desk.peek(Rig.A), 07777);
        CHECK.due("Z behind it", rig.desk.peek(Rig.Z), 07777);
        CHECK.due("what Z tells is not done yet", rig.desk.peek(X), 0);
        rig.run(1);
        CHECK.due("what Z tells is done then", rig.desk.peek(X), 1);
        CHECK.due("Z goes on", rig.desk.peek(Rig.Z), 0);
        // The word +0 is a call of address 0, and -0 a mask; both are words that can be left.
        GuidanceDesk desk = new Rig().poke(Rig.ZRUPT, 04567).program(050017).run(2).desk;
        CHECK.due("Z of +0 that was left", desk.peek(Rig.Z), 0);
        CHECK.due("Q of +0 that was left", desk.peek(Rig.Q), 04567);
        desk = new Rig().poke(Rig.ZRUPT, 04567).poke(Rig.BRUPT, 077777).wide(7).programAt(07777, 5)
                .program(050017).run(2).desk;
        CHECK.due("A of -0 that was left", desk.wide(), 5);
        CHECK.due("Z of -0 that was left", desk.peek(Rig.Z), 04567);
    }

    private static void addedSumIsCut() {
        CHECK.sentence("Promise 11, code 5, part 0",
                "Else [E] is ADDED to the next instruction: the sum of both, made wide, cut.");
        added(030000 + X, 0, 030000 + X);
        added(030000 + X, 077777, 030000 + X);
        added(030000 + X + 1, 077776, 030000 + X);
        added(0, 030000 + X, 030000 + X);
        added(077777, 030000 + X, 030000 + X);
        added(037777, 030000 + X + 1, 030000 + X);
        added(050000 + X, 057777, 070000 + X);
        added(040000, 070000 + X, 070000 + X + 1);
        Rig rig = new Rig().poke(X, 1).program(050000 + X, 037777).run(2);
        CHECK.due("Z of 037777 and 1, cut to +0", rig.desk.peek(Rig.Z), 0);
        CHECK.due("Q of it", rig.desk.peek(Rig.Q), 04002);
        CHECK.due("nothing is added any longer", rig.desk.told(4), GuidanceDesk.NONE);
        CHECK.due("the word itself is the same", rig.desk.fix(2, 1, 0), 037777);
    }

    /** The word at 04001, with another one added, does what the due one does alone. */
    private static void added(int word, int other, int due) {
        Rig one = words(other).program(050200, word).run(2);
        Rig alone = words(other).program(050010, due).run(2);
        String what = word + " and " + other;
        CHECK.due("cycles of " + what, one.desk.cycles(), alone.desk.cycles());
        for (int i = 0; i <= X + 1; i++) {
            CHECK.due("word " + i + " behind " + what, one.desk.peek(i), alone.desk.peek(i));
        }
    }

    private static Rig words(int added) {
        return new Rig().wide(0123).poke(X, 0765).poke(X + 1, 0654).poke(0200, added);
    }

    private static void exchangeDouble() {
        CHECK.sentence("Promise 11, code 5, part 1", "L and [E + 1] change places, then A and [E].");
        GuidanceDesk desk = new Rig().wide(040001).poke(Rig.L, 077777).poke(X, 040000).poke(X + 1, 037777)
                .does(052000 + X);
        CHECK.due("A", desk.wide(), 0140000);
        CHECK.due("L", desk.peek(Rig.L), 037777);
        CHECK.due("[E], A cut", desk.peek(X), 1);
        CHECK.due("[E + 1]", desk.peek(X + 1), 077777);
        desk = new Rig().wide(1).poke(Rig.L, 2).poke(Rig.Q, 3).does(052001);
        CHECK.due("A of E = 1", desk.wide(), 3);
        CHECK.due("L of E = 1", desk.peek(Rig.L), 1);
        CHECK.due("Q of E = 1", desk.peek(Rig.Q), 2);
        desk = new Rig().wide(0137776).poke(Rig.L, 2).does(052000);
        CHECK.due("A of E = 0, cut", desk.wide(), 0177776);
        CHECK.due("L of E = 0", desk.peek(Rig.L), 2);
    }

    private static void exchangeDoubleThroughABank() {
        CHECK.sentence("Promise 11, code 5, part 1", "L and [E + 1] change places, then A and [E].");
        // [01403] is EB in bank 0, and moves what [01402] is, from Q to 0402.
        GuidanceDesk desk = new Rig().poke(Rig.A, 5).poke(Rig.L, 0400).poke(Rig.Q, 7).poke(0402, 011).does(053402);
        CHECK.due("EB has L", desk.peek(Rig.EB), 0400);
        CHECK.due("L has EB", desk.peek(Rig.L), 0);
        CHECK.due("A has [01402] in the new bank", desk.wide(), 011);
        CHECK.due("[01402] in the new bank has A", desk.peek(0402), 5);
        CHECK.due("[01402] in the old bank", desk.peek(Rig.Q), 7);
    }

    private static void exchangeDoubleGoesRound() {
        CHECK.sentence("Promise 11, code 5, part 1", "(E + 1 modulo 02000, here and in the following.)");
        GuidanceDesk desk = new Rig().poke(Rig.EB, 03400).wide(040001).poke(Rig.L, 2).poke(03777, 3).does(053777);
        CHECK.due("L has A, cut", desk.peek(Rig.L), 1);
        CHECK.due("[01777] has L", desk.peek(03777), 2);
        CHECK.due("A has [01777]", desk.wide(), 3);
    }

    private static void store() {
        CHECK.sentence("Promise 11, code 5, part 2", "[E] becomes A cut; if A had an overflow before, Z is one more,"
                + " and A becomes 1 if that was positive, else -1.");
        stored(037777, 037777, 037777, 0);
        stored(040000, 0, 1, 1);
        stored(077777, 037777, 1, 1);
        stored(0100000, 040000, MINUS_ONE, 1);
        stored(0137777, 077777, MINUS_ONE, 1);
        stored(0140000, 040000, 0140000, 0);
        stored(0177777, 077777, 0177777, 0);
        CHECK.due("A that is written with itself", new Rig().wide(040005).does(054000).wide(), 1);
        CHECK.due("below", new Rig().wide(0137770).does(054000).wide(), MINUS_ONE);
        CHECK.due("Z that is written, and one more", new Rig().wide(047776).does(054005).peek(Rig.Z), 07777);
    }

    private static void stored(int a, int dueX, int dueA, int skipped) {
        GuidanceDesk desk = new Rig().wide(a).does(054000 + X);
        CHECK.due("[E] of " + a, desk.peek(X), dueX);
        CHECK.due("A of " + a, desk.wide(), dueA);
        CHECK.due("Z of " + a, desk.peek(Rig.Z), 04001 + skipped);
    }

    private static void storeSkipsRound() {
        CHECK.sentence("Promise 11, code 5, part 2", "if A had an overflow before, Z is one more");
        CHECK.due("from 07776", new Rig().wide(040000).doesAt(07776, 054000 + X).peek(Rig.Z), 0);
        CHECK.due("from 07777", new Rig().wide(040000).doesAt(07777, 054000 + X).peek(Rig.Z), 1);
        CHECK.due("Z written to its end", new Rig().wide(047777).does(054005).peek(Rig.Z), 0);
    }

    private static void exchangeA() {
        CHECK.sentence("Promise 11, code 5, part 3", "A and [E] change places (A cut).");
        int[] wides = {037777, 040000, 077777, 0100000, 0137777, 0140000};
        int[] cuts = {037777, 0, 037777, 040000, 077777, 040000};
        for (int i = 0; i < wides.length; i++) {
            GuidanceDesk desk = new Rig().wide(wides[i]).poke(X, 077777).does(056000 + X);
            CHECK.due("[E] of " + wides[i], desk.peek(X), cuts[i]);
            CHECK.due("A of " + wides[i], desk.wide(), 0177777);
            CHECK.due("Z of " + wides[i], desk.peek(Rig.Z), 04001);
            desk = new Rig().wide(wides[i]).does(056000);
            CHECK.due("A with itself, cut", desk.wide(), Rig.widened(cuts[i]));
        }
    }
}
