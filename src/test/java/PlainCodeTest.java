/** Promise 11: what the instructions do that are not extended, and how many cycles they take. */
public final class PlainCodeTest {
    private static final int X = 0100;
    private static final int MINUS_ONE = 0177776;

    private static final Check CHECK = new Check();

    public static void main(String[] args) {
        control();
        compareWords();
        compareAccumulator();
        jump();
        addDouble();
        addDoubleToRegisters();
        exchangeL();
        increment();
        addToStorage();
        takeAndTurn();
        addAndMask();
        fixedWords();
        addToNext();
        resume();
        exchangeDouble();
        store();
        exchangeA();
        counts();
        CHECK.end();
    }

    /** Does one instruction at 04000; its cycles and where it leaves Z have to be as due. */
    private static GuidanceDesk done(Rig rig, int word, int cycles, int z) {
        rig.program(word);
        CHECK.due("cycles of " + Integer.toOctalString(word), rig.desk.step(1), cycles);
        CHECK.due("Z behind " + Integer.toOctalString(word), rig.desk.peek(Rig.Z), z);
        return rig.desk;
    }

    private static void control() {
        GuidanceDesk desk = done(new Rig(), 00123, 1, 0123);
        CHECK.due("Q behind a call", desk.peek(Rig.Q), 04001);
        for (int k : new int[] {0, 1, 2, 5, 7, 02000, 02003, 04004, 06006, 07777}) {
            desk = done(new Rig(), k, 1, k);
            CHECK.due("Q behind a call of " + k, desk.peek(Rig.Q), 04001);
            CHECK.due("not inhibited", desk.told(0), 0);
            CHECK.due("not extended", desk.told(3), 0);
        }
        for (int k : new int[] {Rig.RELEASE, Rig.INHIBIT, Rig.EXTEND}) {
            desk = done(new Rig().poke(Rig.Q, 9), k, 1, 04001);
            CHECK.due("Q kept by " + k, desk.peek(Rig.Q), 9);
            CHECK.due("inhibited by " + k, desk.told(0), k == Rig.INHIBIT ? 1 : 0);
            CHECK.due("extended by " + k, desk.told(3), k == Rig.EXTEND ? 1 : 0);
        }
        desk = new Rig().program(Rig.INHIBIT, Rig.RELEASE).run(2).desk;
        CHECK.due("released", desk.told(0), 0);
        desk = new Rig().programAt(07777, 0123).poke(Rig.Z, 07777).run(1).desk;
        CHECK.due("Q from the last address", desk.peek(Rig.Q), 0);
    }

    private static void compareWords() {
        compareWord(5, 4, 0);
        compareWord(1, 0, 0);
        compareWord(037777, 037776, 0);
        compareWord(0, 0, 1);
        compareWord(077776, 0, 2);
        compareWord(040000, 037776, 2);
        compareWord(077777, 0, 3);
        GuidanceDesk desk = done(new Rig().poke(020, 2), 010020, 2, 04001);
        CHECK.due("compared, not edited", desk.peek(020), 1);
        Rig last = new Rig().programAt(07776, 010000 + X).poke(X, 077777).poke(Rig.Z, 07776);
        CHECK.due("Z round the end", last.run(1).desk.peek(Rig.Z), 2);
    }

    private static void compareWord(int x, int a, int skipped) {
        GuidanceDesk desk = done(new Rig().wide(0123).poke(X, x), 010000 + X, 2, 04001 + skipped);
        CHECK.due("A of comparing " + x, desk.wide(), a);
        CHECK.due("compared word " + x, desk.peek(X), x);
    }

    private static void compareAccumulator() {
        compareA(0, 0, 1);
        compareA(0177777, 0, 3);
        compareA(7, 6, 0);
        compareA(0177770, 6, 2);
        compareA(040000, 037777, 0);
        compareA(077777, 077776, 0);
        compareA(0137777, 037777, 2);
        compareA(0100000, 077776, 2);
        // By the switched address the accumulator is a word, cut.
        GuidanceDesk desk = done(new Rig().wide(040000), 011400, 2, 04002);
        CHECK.due("A compared as a word", desk.wide(), 0);
    }

    private static void compareA(int x, int a, int skipped) {
        GuidanceDesk desk = done(new Rig().wide(x), 010000, 2, 04001 + skipped);
        CHECK.due("A of comparing A " + x, desk.wide(), a);
    }

    private static void jump() {
        for (int k : new int[] {02000, 03777, 04000, 05123, 06000, 07777}) {
            GuidanceDesk desk = done(new Rig().poke(Rig.Q, 9), 010000 + k, 1, k);
            CHECK.due("Q kept by a jump", desk.peek(Rig.Q), 9);
        }
    }

    private static void addDouble() {
        addDouble(2, 3, 4, 5, 6, 8, 0);
        addDouble(2, 037777, 4, 1, 7, 0, 0);
        addDouble(5, 040000, 1, 077776, 5, 077777, 0);
        addDouble(037777, 0, 1, 0, 0, 0, 1);
        addDouble(0140000, 0, 077776, 0, 077777, 0, MINUS_ONE);
        addDouble(037777, 037777, 0, 2, 0, 1, 1);
        addDouble(0140000, 040000, 077777, 077775, 077777, 077776, MINUS_ONE);
        addDouble(040000, 0, 077776, 0, 037777, 0, 0);
        addDouble(0177777, 077777, 077777, 077777, 077777, 077777, 0);
    }

    private static void addDouble(int a, int l, int e, int next, int dueE, int dueNext, int dueA) {
        Rig rig = new Rig().wide(a).poke(Rig.L, l).poke(X, e).poke(X + 1, next);
        GuidanceDesk desk = done(rig, 020000 + X, 3, 04001);
        CHECK.due("higher sum of " + a, desk.peek(X), dueE);
        CHECK.due("lower sum of " + l, desk.peek(X + 1), dueNext);
        CHECK.due("A of the sum", desk.wide(), dueA);
        CHECK.due("L of the sum", desk.peek(Rig.L), 0);
    }

    private static void addDoubleToRegisters() {
        GuidanceDesk desk = done(new Rig().wide(2).poke(Rig.L, 3), 020000, 3, 04001);
        CHECK.due("A doubled", desk.wide(), 0);
        CHECK.due("L doubled", desk.peek(Rig.L), 0);
        desk = done(new Rig().wide(037777).poke(Rig.L, 3), 020000, 3, 04001);
        CHECK.due("A doubled with overflow", desk.wide(), 1);
        desk = done(new Rig().wide(5).poke(Rig.L, 3).poke(0377, 7), 021777, 3, 04001);
        CHECK.due("the last word", desk.peek(0377), 12);
        CHECK.due("A behind the last word", desk.wide(), 0);
        CHECK.due("L then", desk.peek(Rig.L), 0);
        desk = done(new Rig().wide(1).poke(Rig.L, 1), 020020, 3, 04001);
        CHECK.due("edited higher", desk.peek(020), 040000);
        CHECK.due("edited lower", desk.peek(021), 0);
    }

    private static void exchangeL() {
        Rig rig = new Rig().wide(040000).poke(Rig.L, 077776).poke(X, 7);
        GuidanceDesk desk = done(rig, 022000 + X, 2, 04001);
        CHECK.due("L exchanged", desk.peek(Rig.L), 7);
        CHECK.due("memory exchanged", desk.peek(X), 077776);
        CHECK.due("A left alone", desk.wide(), 040000);
        desk = done(new Rig().wide(040001).poke(Rig.L, 077776), 022000, 2, 04001);
        CHECK.due("L with A", desk.wide(), MINUS_ONE);
        CHECK.due("A cut in L", desk.peek(Rig.L), 1);
        desk = done(new Rig().poke(Rig.L, 5), 022001, 2, 04001);
        CHECK.due("L with itself", desk.peek(Rig.L), 5);
        desk = done(new Rig().poke(Rig.L, 5), 022007, 2, 04001);
        CHECK.due("L with 7", desk.peek(Rig.L), 0);
        desk = done(new Rig().poke(Rig.L, 5).poke(020, 2), 022020, 2, 04001);
        CHECK.due("L with an editor", desk.peek(Rig.L), 1);
        CHECK.due("an editor with L", desk.peek(020), 040002);
    }

    private static void increment() {
        int[] from = {0, 5, 037776, 037777, 040000, 077776, 077777};
        int[] to = {1, 6, 037777, 0, 040001, 077777, 1};
        for (int i = 0; i < from.length; i++) {
            GuidanceDesk desk = done(new Rig().wide(3).poke(X, from[i]), 024000 + X, 2, 04001);
            CHECK.due("increment of " + from[i], desk.peek(X), to[i]);
            CHECK.due("A kept", desk.wide(), 3);
        }
        GuidanceDesk desk = done(new Rig().wide(040004), 024000, 2, 04001);
        CHECK.due("A incremented as a word", desk.wide(), 5);
        desk = done(new Rig().poke(020, 4), 024020, 2, 04001);
        CHECK.due("an editor incremented", desk.peek(020), 040001);
        desk = done(new Rig().poke(026, 037777), 024026, 2, 04001);
        CHECK.due("a timer incremented", desk.peek(026), 0);
        CHECK.due("which wants nothing", desk.told(2), 0);
    }

    private static void addToStorage() {
        addToStorage(3, 4, 7, 7);
        addToStorage(037777, 1, 040000, 0);
        addToStorage(0140000, 077776, 0137777, 077777);
        addToStorage(040000, 077776, 037777, 037777);
        addToStorage(5, 077772, 0177777, 077777);
        GuidanceDesk desk = done(new Rig().wide(037777), 026000, 2, 04001);
        CHECK.due("A added to itself", desk.wide(), 037776);
        desk = done(new Rig().wide(1).poke(020, 4), 026020, 2, 04001);
        CHECK.due("A of an editor", desk.wide(), 3);
        CHECK.due("an editor added to", desk.peek(020), 040001);
    }

    private static void addToStorage(int a, int e, int dueA, int dueE) {
        GuidanceDesk desk = done(new Rig().wide(a).poke(X, e), 026000 + X, 2, 04001);
        CHECK.due("A added to storage", desk.wide(), dueA);
        CHECK.due("storage added to", desk.peek(X), dueE);
    }

    private static void takeAndTurn() {
        for (int word : new int[] {0, 1, 037777, 040000, 077776, 077777}) {
            int wide = word < 040000 ? word : word + 0100000;
            GuidanceDesk desk = done(new Rig().wide(040000).poke(X, word), 030000 + X, 2, 04001);
            CHECK.due("taken", desk.wide(), wide);
            CHECK.due("taken from", desk.peek(X), word);
            desk = done(new Rig().wide(040000).poke(X, word), 040000 + X, 2, 04001);
            CHECK.due("turned", desk.wide(), 0177777 - wide);
            CHECK.due("turned from", desk.peek(X), word);
        }
        CHECK.due("A of A", done(new Rig().wide(040002), 030000, 2, 04001).wide(), 2);
        CHECK.due("A of A turned", done(new Rig().wide(040002), 040000, 2, 04001).wide(), 0177775);
        GuidanceDesk desk = done(new Rig().poke(020, 2), 030020, 2, 04001);
        CHECK.due("editor taken", desk.wide(), 1);
        CHECK.due("editor not written", desk.peek(020), 1);
        CHECK.due("Z taken", done(new Rig(), 030005, 2, 04001).wide(), 04001);
    }

    private static void addAndMask() {
        add(3, 4, 7);
        add(037777, 1, 040000);
        add(040000, 1, 040001);
        add(0140000, 040000, 0100001);
        add(1, 077776, 0177777);
        add(2, 077776, 1);
        add(0177777, 077777, 0177777);
        add(0, 0, 0);
        add(077777, 1, 0100000);
        mask(07654, 04567, 04444);
        mask(0177777, 040001, 0140001);
        mask(040003, 077777, 3);
        mask(0137777, 077777, 0177777);
        CHECK.due("A and A", done(new Rig().wide(040003), 060000, 2, 04001).wide(), 040006);
    }

    private static void add(int a, int word, int due) {
        GuidanceDesk desk = done(new Rig().wide(a).poke(X, word), 060000 + X, 2, 04001);
        CHECK.due("sum of " + a + " and " + word, desk.wide(), due);
    }

    private static void mask(int a, int word, int due) {
        GuidanceDesk desk = done(new Rig().wide(a).poke(X, word), 070000 + X, 2, 04001);
        CHECK.due("bits of " + a + " and " + word, desk.wide(), due);
    }

    private static void fixedWords() {
        int at = 06543;
        int word = 070707;
        CHECK.due("fixed word", done(fixedWord(at, word), 030000 + at, 2, 04001).wide(), 0170707);
        CHECK.due("fixed word turned", done(fixedWord(at, word), 040000 + at, 2, 04001).wide(), 07070);
        CHECK.due("fixed word added", done(fixedWord(at, word), 060000 + at, 2, 04001).wide(), 0171340);
        CHECK.due("fixed word's bits", done(fixedWord(at, word), 070000 + at, 2, 04001).wide(), 0401);
    }

    private static Rig fixedWord(int address, int word) {
        return new Rig().wide(0431).programAt(address, word);
    }

    private static void addToNext() {
        Rig rig = new Rig().program(050000 + X, 030200).poke(X, 5).poke(0205, 44);
        CHECK.due("cycles of adding", rig.desk.step(1), 2);
        CHECK.due("what is added", rig.desk.told(4), 5);
        CHECK.due("not extended", rig.desk.told(3), 0);
        CHECK.due("cycles of the sum", rig.desk.step(1), 2);
        CHECK.due("taken by the sum", rig.desk.wide(), 44);
        CHECK.due("no longer added", rig.desk.told(4), GuidanceDesk.NONE);
        CHECK.due("Z behind the sum", rig.desk.peek(Rig.Z), 04002);
        rig = new Rig().program(050000 + X, 030200).poke(X, 077776).poke(0177, 45);
        CHECK.due("less one", rig.run(2).desk.wide(), 45);
        rig = new Rig().program(050000 + X, 030200).poke(X, 0).poke(0200, 46);
        CHECK.due("0 is added", rig.run(1).desk.told(4), 0);
        CHECK.due("the sum with 0", rig.run(1).desk.wide(), 46);
        rig = new Rig().program(050000 + X, 030200).poke(X, 077777).poke(0200, 47);
        CHECK.due("-0 is added", rig.run(1).desk.told(4), 077777);
        CHECK.due("the sum with -0", rig.run(1).desk.wide(), 47);
        // The sum 037777 and 1 is an overflow, and cut it is +0: a call of address 0.
        rig = new Rig().program(050000 + X, 037777).poke(X, 1);
        CHECK.due("cycles of a cut sum", rig.desk.step(2), 3);
        CHECK.due("Z of a cut sum", rig.desk.peek(Rig.Z), 0);
        rig = new Rig().program(050000, 030200).wide(040003).poke(0203, 48);
        CHECK.due("A is added, cut", rig.run(1).desk.told(4), 3);
        CHECK.due("the sum with A", rig.run(1).desk.wide(), 48);
        rig = new Rig().program(050000 + X, 050000 + X).poke(X, 1).poke(X + 1, 9);
        CHECK.due("added behind added", rig.run(2).desk.told(4), 9);
        rig = new Rig().program(050000 + X, 5).poke(X, 1);
        CHECK.due("a sum that extends", rig.run(2).desk.told(3), 1);
    }

    private static void resume() {
        Rig rig = new Rig().program(Rig.RESUME).poke(Rig.ZRUPT, 075001).poke(Rig.BRUPT, 024000 + X);
        CHECK.due("cycles of RESUME", rig.desk.step(1), 2);
        CHECK.due("Z of RESUME", rig.desk.peek(Rig.Z), 05001);
        CHECK.due("nothing is added", rig.desk.told(4), GuidanceDesk.NONE);
        rig.poke(Rig.BRUPT, 0123);
        CHECK.due("cycles of what was left", rig.desk.step(1), 2);
        CHECK.due("what was left is done", rig.desk.peek(X), 1);
        CHECK.due("Z is not made more", rig.desk.peek(Rig.Z), 05001);
        rig.programAt(05001, 024000 + X).run(1);
        CHECK.due("then what Z tells", rig.desk.peek(X), 2);
        CHECK.due("Z is one more again", rig.desk.peek(Rig.Z), 05002);
        rig = new Rig().program(050000 + X, 050016).poke(X, 1).poke(Rig.ZRUPT, 0777);
        CHECK.due("RESUME as a sum", rig.run(2).desk.peek(Rig.Z), 0777);
        rig = new Rig().program(050000 + X, Rig.RESUME).poke(X, 1).poke(020, 2);
        CHECK.due("no RESUME as a sum", rig.run(2).desk.told(4), 1);
        rig = new Rig().program(Rig.RESUME).poke(Rig.BRUPT, 0);
        CHECK.due("+0 is left too", rig.run(2).desk.peek(Rig.Q), 0);
        CHECK.due("and done", rig.desk.cycles(), 3);
    }

    private static void exchangeDouble() {
        Rig rig = new Rig().wide(040001).poke(Rig.L, 2).poke(X, 077774).poke(X + 1, 4);
        GuidanceDesk desk = done(rig, 052000 + X, 3, 04001);
        CHECK.due("A of two", desk.wide(), 0177774);
        CHECK.due("L of two", desk.peek(Rig.L), 4);
        CHECK.due("first of two", desk.peek(X), 1);
        CHECK.due("second of two", desk.peek(X + 1), 2);
        desk = done(new Rig().wide(040001).poke(Rig.L, 2), 052000, 3, 04001);
        CHECK.due("A with itself", desk.wide(), 1);
        CHECK.due("L with itself", desk.peek(Rig.L), 2);
        desk = done(new Rig().wide(1).poke(Rig.L, 2).poke(Rig.Q, 3), 052001, 3, 04001);
        CHECK.due("A with L", desk.wide(), 3);
        CHECK.due("L with Q and A", desk.peek(Rig.L), 1);
        CHECK.due("Q with L", desk.peek(Rig.Q), 2);
        desk = done(new Rig().wide(1).poke(Rig.L, 2).poke(0377, 3), 053777, 3, 04001);
        CHECK.due("the last word with A", desk.wide(), 3);
        CHECK.due("which had L", desk.peek(0377), 2);
        CHECK.due("and L has A", desk.peek(Rig.L), 1);
    }

    private static void store() {
        store(5, 5, 5, 0);
        store(0177776, 077776, 0177776, 0);
        store(040005, 5, 1, 1);
        store(0137770, 077770, MINUS_ONE, 1);
        GuidanceDesk desk = done(new Rig().wide(040005), 054000, 2, 04002);
        CHECK.due("A stored in A", desk.wide(), 1);
        CHECK.due("Z stored", done(new Rig().wide(0123), 054005, 2, 0123).wide(), 0123);
        CHECK.due("Z stored with overflow", done(new Rig().wide(040123), 054005, 2, 0124).wide(), 1);
        desk = new Rig().programAt(07777, 054000 + X).wide(040000).poke(Rig.Z, 07777).run(1).desk;
        CHECK.due("skipped round the end", desk.peek(Rig.Z), 1);
        desk = new Rig().programAt(07776, 054000 + X).wide(040000).poke(Rig.Z, 07776).run(1).desk;
        CHECK.due("skipped to the start", desk.peek(Rig.Z), 0);
    }

    private static void store(int a, int dueX, int dueA, int skipped) {
        GuidanceDesk desk = done(new Rig().wide(a).poke(Rig.L, 6), 054000 + X, 2, 04001 + skipped);
        CHECK.due("stored " + a, desk.peek(X), dueX);
        CHECK.due("A behind storing " + a, desk.wide(), dueA);
        CHECK.due("L behind storing", desk.peek(Rig.L), 6);
    }

    private static void exchangeA() {
        Rig rig = new Rig().wide(040005).poke(Rig.L, 6).poke(X, 077770);
        GuidanceDesk desk = done(rig, 056000 + X, 2, 04001);
        CHECK.due("A exchanged", desk.wide(), 0177770);
        CHECK.due("memory exchanged with A", desk.peek(X), 5);
        CHECK.due("L not exchanged", desk.peek(Rig.L), 6);
        CHECK.due("A exchanged with A", done(new Rig().wide(040005), 056000, 2, 04001).wide(), 5);
        CHECK.due("A exchanged with 7", done(new Rig().wide(5), 056007, 2, 04001).wide(), 0);
        desk = done(new Rig().wide(0777), 056005, 2, 0777);
        CHECK.due("A exchanged with Z", desk.wide(), 04001);
        desk = done(new Rig().wide(0176003).poke(Rig.BB, 04001), 056006, 2, 04001);
        CHECK.due("A exchanged with BB", desk.wide(), 04001);
        CHECK.due("FB of it", desk.peek(Rig.FB), 076000);
        CHECK.due("EB of it", desk.peek(Rig.EB), 01400);
    }

    private static void counts() {
        Rig rig = new Rig().program(030100, 060101, 054102).poke(0100, 2).poke(0101, 3);
        CHECK.due("no steps", rig.desk.step(0), 0);
        CHECK.due("Z of no steps", rig.desk.peek(Rig.Z), 04000);
        CHECK.due("three steps", rig.desk.step(3), 6);
        CHECK.due("the sum", rig.desk.peek(0102), 5);
        CHECK.due("cycles", rig.desk.cycles(), 6);
        GuidanceDesk desk = new Rig().program(014000).desk;
        CHECK.due("most steps", desk.step(2000), 2000);
        CHECK.due("most cycles", desk.cycles(), 2000);
        CHECK.refused("step -1", () -> desk.step(-1));
        CHECK.refused("step 2001", () -> desk.step(2001));
        CHECK.due("cycles kept", desk.cycles(), 2000);
    }
}
