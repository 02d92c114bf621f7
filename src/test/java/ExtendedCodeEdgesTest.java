/** Promises 11 and 14, by the terms of an instruction: the boundary cases of the extended codes. */
public final class ExtendedCodeEdgesTest {
    private static final int X = 0100;
    private static final int MINUS_ZERO = 077777;

    private static final Check CHECK = new Check();

    public static void main(String[] args) {
        channelNumbers();
        channelsWithAnOverflow();
        alarms();
        alarmsAreCounted();
        dividend();
        divideTooMuch();
        divideByZero();
        divideJustEnough();
        divideZero();
        divideSigns();
        jumpIfZero();
        subtractPlain();
        exchangeQ();
        augment();
        diminish();
        diminishWritesNoZero();
        takeDouble();
        takeDoubleInOrder();
        turnDouble();
        addedIsExtended();
        subtract();
        jumpIfNotAbove();
        multiply();
        multiplyToZero();
        CHECK.end();
    }

    private static int turned(int word) {
        return Rig.turned(word);
    }

    private static void channelNumbers() {
        CHECK.sentence("Promise 11, extended code 0", "the channel K modulo 01000, by K / 01000");
        for (int i : new int[] {3, 0777}) {
            int[] dueA = {05, 03, 01, 01, 07, 07, 06};
            int[] dueChannel = {05, 03, 05, 01, 05, 07, 05};
            for (int way = 0; way <= 6; way++) {
                Rig rig = new Rig().wide(3);
                rig.desk.send(i, 5);
                GuidanceDesk desk = rig.doesExtended(way * 01000 + i);
                CHECK.due("A by " + way + " of channel " + i, desk.wide(), dueA[way]);
                CHECK.due("channel " + i + " by " + way, desk.channel(i), dueChannel[way]);
                CHECK.due("alarms by " + way, desk.told(5), 0);
                CHECK.due("cycles by " + way, desk.cycles(), 3);
            }
        }
    }

    private static void channelsWithAnOverflow() {
        CHECK.sentence("Promise 11, extended code 0", "0 A becomes it. 1 it becomes A cut. 2 A becomes A cut and"
                + " it, by bits; 3 so do both. 4 A becomes A cut or it; 5 so do both. 6 A becomes A cut"
                + " exclusive or it.");
        int word = 037774;
        int cut = 040003;
        int[] dueA = {037774, 0100003, 0, 0, 0177777, 0177777, 0177777};
        int[] dueChannel = {word, cut, word, 0, word, 077777, word};
        for (int way = 0; way <= 6; way++) {
            Rig rig = new Rig().wide(0100003);
            rig.desk.send(0777, word);
            GuidanceDesk desk = rig.doesExtended(way * 01000 + 0777);
            CHECK.due("A by " + way, desk.wide(), dueA[way]);
            CHECK.due("the channel by " + way, desk.channel(0777), dueChannel[way]);
        }
    }

    private static void alarms() {
        CHECK.sentence("Promises 11 and 14, extended code 0", "7: an ALARM.");
        for (int k : new int[] {07000, 07001, 07010, 07777}) {
            Rig rig = new Rig().wide(040005).program(Rig.EXTEND, k);
            CHECK.due("cycles of " + k, rig.desk.step(2), 3);
            CHECK.due("alarms of " + k, rig.desk.told(5), 1);
            CHECK.due("Z of " + k, rig.desk.peek(Rig.Z), 04000);
            CHECK.due("A of " + k, rig.desk.wide(), 040005);
            CHECK.due("channel of " + k, rig.desk.channel(k % 01000), 0);
        }
        CHECK.due("the last K that is none", new Rig().doesExtended(06777).told(5), 0);
        CHECK.due("not extended it is a call", new Rig().does(07000).told(5), 0);
    }

    private static void alarmsAreCounted() {
        CHECK.sentence("Promises 11 and 14", "An alarm is a RESTART, and is counted.");
        GuidanceDesk desk = new Rig().program(Rig.EXTEND, 07000).desk;
        desk.step(2000);
        CHECK.due("1000 alarms", desk.told(5), 1000);
    }

    private static void divide(int a, int l, int by, int dueA, int dueL) {
        Rig rig = new Rig().poke(Rig.A, a).poke(Rig.L, l).poke(X, by);
        GuidanceDesk desk = rig.doesExtended(010000 + X);
        String what = " of " + a + " " + l + " by " + by;
        CHECK.due("A" + what, desk.wide(), Rig.widened(dueA));
        CHECK.due("L" + what, desk.peek(Rig.L), dueL);
        CHECK.due("cycles" + what, desk.cycles(), 7);
    }

    private static void dividend() {
        CHECK.sentence("Promise 11, extended code 1, part 0", "the words A cut and L: D is the first one's number"
                + " times 040000, and the second one's; d is the number of [E].");
        divide(0, 037777, 037777, 1, 0);
        divide(0, 037776, 037777, 0, 037776);
        divide(1, turned(1), 2, 017777, 1);
        divide(1, 040000, 2, 0, 1);
        divide(037776, 0, 040000, turned(037776), 037776);
        divide(turned(1), 0, 040000, 1, turned(1));
        GuidanceDesk desk = new Rig().wide(0137776).poke(Rig.L, 0).poke(X, 2).doesExtended(010000 + X);
        CHECK.due("A with a negative overflow is -1, cut", desk.peek(Rig.A), turned(020000));
    }

    private static void divideTooMuch() {
        CHECK.sentence("Promise 11, extended code 1, part 0", "If |D| is not below |d| times 040000: A becomes"
                + " 037777, turned if the signs of A and [E] (as words) differ.");
        divide(5, 0, 5, 037777, 0);
        divide(5, MINUS_ZERO, 5, 037777, MINUS_ZERO);
        divide(5, 1, 5, 037777, 1);
        divide(5, 037777, 5, 037777, 037777);
        divide(6, turned(1), 5, 037777, turned(1));
        divide(turned(5), 0, 5, turned(037777), 0);
        divide(5, 0, turned(5), turned(037777), 0);
        divide(turned(5), 0, turned(5), 037777, 0);
        divide(037777, 037777, 037777, 037777, 037777);
        divide(040000, 040000, 1, turned(037777), 040000);
    }

    private static void divideByZero() {
        CHECK.sentence("Promise 11, extended code 1, part 0", "If |D| is not below |d| times 040000: A becomes"
                + " 037777, turned if the signs of A and [E] (as words) differ.");
        divide(0, 0, 0, 037777, 0);
        divide(0, 0, MINUS_ZERO, turned(037777), 0);
        divide(MINUS_ZERO, 0, 0, turned(037777), 0);
        divide(MINUS_ZERO, MINUS_ZERO, MINUS_ZERO, 037777, MINUS_ZERO);
        // The sign is that of A, though D has the other one.
        divide(0, turned(5), 0, 037777, turned(5));
        divide(MINUS_ZERO, 5, 0, turned(037777), 5);
    }

    private static void divideJustEnough() {
        CHECK.sentence("Promise 11, extended code 1, part 0", "Else A becomes |D| by |d|, rounded down");
        divide(4, 037777, 5, 037777, 4);
        divide(5, turned(1), 5, 037777, 4);
        divide(037776, 037777, 037777, 037777, 037776);
        divide(0, 037777, 1, 037777, 0);
        divide(0, 4, 5, 0, 4);
        divide(0, 5, 5, 1, 0);
        divide(0, 9, 5, 1, 4);
        GuidanceDesk desk = new Rig().wide(040001).poke(X, 2).doesExtended(010000 + X);
        CHECK.due("A with an overflow, cut", desk.wide(), 020000);
    }

    private static void divideZero() {
        CHECK.sentence("Promise 11, extended code 1, part 0",
                "turned if the sign of D (that of A, if D is 0) and that of [E] differ");
        divide(0, 0, 5, 0, 0);
        divide(0, 0, turned(5), MINUS_ZERO, 0);
        divide(0, MINUS_ZERO, 5, 0, 0);
        divide(MINUS_ZERO, 0, 5, MINUS_ZERO, MINUS_ZERO);
        divide(MINUS_ZERO, MINUS_ZERO, turned(5), 0, MINUS_ZERO);
    }

    private static void divideSigns() {
        CHECK.sentence("Promise 11, extended code 1, part 0", "turned if the sign of D (that of A, if D is 0) and"
                + " that of [E] differ; L the rest, turned if that of D is negative.");
        divide(1, 1, 3, 5461, 2);
        divide(1, 1, turned(3), turned(5461), 2);
        divide(turned(1), turned(1), 3, turned(5461), turned(2));
        divide(turned(1), turned(1), turned(3), 5461, turned(2));
        // A and L of different signs: the sign of D is that of the greater part.
        divide(0, turned(4), 3, turned(1), turned(1));
        divide(MINUS_ZERO, 4, 3, 1, 1);
        divide(1, 040000, 3, 0, 1);
        divide(turned(1), 037777, 3, MINUS_ZERO, turned(1));
        divide(0, turned(3), 3, turned(1), MINUS_ZERO);
    }

    private static void jumpIfZero() {
        CHECK.sentence("Promise 11, extended code 1",
                "Other parts: Z becomes K if A is +0 or -0 as a wide number (1), else nothing (2).");
        for (int k : new int[] {02000, 07777}) {
            for (int a : new int[] {0, 0177777}) {
                GuidanceDesk desk = new Rig().wide(a).program(Rig.EXTEND, 010000 + k).run(1).desk;
                CHECK.due("cycles with " + a, desk.step(1), 1);
                CHECK.due("Z with " + a, desk.peek(Rig.Z), k);
            }
            // 040000 and 0137777 are +0 and -0 only when they are cut.
            for (int a : new int[] {1, 037777, 040000, 077777, 0100000, 0137777, 0140000, 0177776}) {
                GuidanceDesk desk = new Rig().wide(a).program(Rig.EXTEND, 010000 + k).run(1).desk;
                CHECK.due("cycles with " + a, desk.step(1), 2);
                CHECK.due("Z with " + a, desk.peek(Rig.Z), 04002);
                CHECK.due("A with " + a, desk.wide(), a);
            }
        }
    }

    private static void subtractPlain() {
        CHECK.sentence("Promise 11, extended code 2, part 0", "A cut less [E] as plain numbers, modulo 0100000,"
                + " and 1 less if that is 040000 or more: A.");
        lessPlain(0, 0, 0);
        lessPlain(077777, 077777, 0);
        lessPlain(0, 077777, 1);
        lessPlain(0, 1, 0177776);
        lessPlain(037777, 0, 037777);
        lessPlain(0, 040001, 037777);
        lessPlain(040000, 0, 037777);
        lessPlain(0, 040000, 037777);
        lessPlain(040001, 0, 0140000);
        lessPlain(0, 037777, 0140000);
        lessPlain(077777, 0, 0177776);
        GuidanceDesk desk = new Rig().wide(040005).poke(X, 1).doesExtended(020000 + X);
        CHECK.due("A with an overflow, cut", desk.wide(), 4);
        CHECK.due("A less A", new Rig().wide(0100005).doesExtended(020000).wide(), 0);
    }

    private static void lessPlain(int a, int word, int due) {
        CHECK.due(a + " less " + word, new Rig().poke(Rig.A, a).poke(X, word).doesExtended(020000 + X).wide(), due);
    }

    private static void exchangeQ() {
        CHECK.sentence("Promise 11, extended code 2, part 1", "Q and [E] change places.");
        GuidanceDesk desk = new Rig().poke(Rig.Q, 077777).poke(X, 040000).doesExtended(022000 + X);
        CHECK.due("Q", desk.peek(Rig.Q), 040000);
        CHECK.due("[E]", desk.peek(X), 077777);
        CHECK.due("Q with itself", new Rig().poke(Rig.Q, 5).doesExtended(022002).peek(Rig.Q), 5);
        CHECK.due("Q with what is always 0", new Rig().poke(Rig.Q, 5).doesExtended(022007).peek(Rig.Q), 0);
        desk = new Rig().poke(Rig.Q, 077777).doesExtended(022005);
        CHECK.due("Q with Z", desk.peek(Rig.Q), 04002);
        CHECK.due("Z with Q", desk.peek(Rig.Z), 07777);
    }

    private static void augment() {
        CHECK.sentence("Promise 11, extended code 2, part 2",
                "[E] becomes the sum of it and 1, cut, if its highest bit is 0, else of it and -1.");
        int[] from = {0, 037776, 037777, 040000, 040001, 077776, 077777};
        int[] to = {1, 037777, 0, 077777, 040000, 077775, 077776};
        for (int i = 0; i < from.length; i++) {
            CHECK.due("from " + from[i], new Rig().poke(X, from[i]).doesExtended(024000 + X).peek(X), to[i]);
        }
        CHECK.due("A with a positive overflow", new Rig().wide(077777).doesExtended(024000).wide(), 0);
        CHECK.due("A with a negative one", new Rig().wide(0100000).doesExtended(024000).wide(), 0177777);
    }

    private static void diminish() {
        CHECK.sentence("Promise 11, extended code 2, part 3", "[E] becomes 1 less if it is above 0 (0, and not -0,"
                + " of 1), the sum of it and 1 if it is below -0");
        int[] from = {1, 2, 037777, 040000, 077775, 077776};
        int[] to = {0, 1, 037776, 040001, 077776, 077777};
        for (int i = 0; i < from.length; i++) {
            CHECK.due("from " + from[i], new Rig().poke(X, from[i]).doesExtended(026000 + X).peek(X), to[i]);
        }
        CHECK.due("A with an overflow", new Rig().wide(040001).doesExtended(026000).wide(), 0);
        CHECK.due("A with a negative one", new Rig().wide(0137776).doesExtended(026000).wide(), 0177777);
    }

    private static void diminishWritesNoZero() {
        CHECK.sentence("Promise 11, extended code 2, part 3", "else it is not written.");
        CHECK.due("+0", new Rig().poke(X, 0).doesExtended(026000 + X).peek(X), 0);
        CHECK.due("-0", new Rig().poke(X, 077777).doesExtended(026000 + X).peek(X), 077777);
        // Were A written, its overflow would be lost.
        CHECK.due("A that is +0 cut", new Rig().wide(040000).doesExtended(026000).wide(), 040000);
        CHECK.due("A that is -0 cut", new Rig().wide(0137777).doesExtended(026000).wide(), 0137777);
    }

    private static void takeDouble() {
        CHECK.sentence("Promise 11, extended code 3", "L becomes [K + 1], then A [K] (K + 1 modulo 010000).");
        GuidanceDesk desk = new Rig().programAt(07776, 5, 6).doesExtended(037776);
        CHECK.due("A of 07776", desk.wide(), 5);
        CHECK.due("L of 07777", desk.peek(Rig.L), 6);
        desk = new Rig().wide(040007).programAt(07777, 5).doesExtended(037777);
        CHECK.due("A of 07777", desk.wide(), 5);
        CHECK.due("L of 0, A cut", desk.peek(Rig.L), 7);
        int[] addresses = {01377, 01777, 03777, 05777};
        for (int address : addresses) {
            desk = bankEnds().doesExtended(030000 + address);
            CHECK.due("A of " + address, desk.wide(), wordAt(address));
            CHECK.due("L behind " + address, desk.peek(Rig.L), wordAt(address + 1));
        }
    }

    private static void takeDoubleInOrder() {
        CHECK.sentence("Promise 11, extended code 3", "L becomes [K + 1], then A [K]");
        GuidanceDesk desk = new Rig().poke(Rig.L, 1).poke(Rig.Q, 2).doesExtended(030001);
        CHECK.due("L of Q", desk.peek(Rig.L), 2);
        CHECK.due("A of L, which is Q by then", desk.wide(), 2);
        desk = new Rig().wide(077777).poke(Rig.L, 1).doesExtended(030000);
        CHECK.due("A of A, cut", desk.wide(), 037777);
        CHECK.due("L of L", desk.peek(Rig.L), 1);
    }

    /** Words at the ends of the banks, beside which another bank begins. */
    private static Rig bankEnds() {
        Rig rig = new Rig().poke(Rig.EB, 02400).poke(Rig.FB, 014000).poke(01377, 1).poke(02400, 2).poke(02777, 3);
        rig.desk.fix(6, 0, 4);
        rig.desk.fix(6, 01777, 5);
        rig.desk.fix(2, 01777, 6);
        rig.desk.fix(3, 0, 7);
        return rig;
    }

    private static int wordAt(int address) {
        int[] addresses = {01377, 01400, 01777, 02000, 03777, 05777, 06000};
        for (int i = 0; i < addresses.length; i++) {
            if (addresses[i] == address) {
                return i + 1;
            }
        }
        // The word that extends stands at 04000.
        return Rig.EXTEND;
    }

    private static void turnDouble() {
        CHECK.sentence("Promise 11, extended code 4", "likewise, both turned.");
        GuidanceDesk desk = new Rig().programAt(07776, 0, 077777).doesExtended(047776);
        CHECK.due("A of +0", desk.wide(), 0177777);
        CHECK.due("L of -0", desk.peek(Rig.L), 0);
        desk = new Rig().wide(040007).programAt(07777, 040000).doesExtended(047777);
        CHECK.due("A of 07777", desk.wide(), 037777);
        CHECK.due("L of 0, A cut", desk.peek(Rig.L), turned(7));
        desk = new Rig().poke(Rig.L, 1).poke(Rig.Q, 2).doesExtended(040001);
        CHECK.due("L of Q", desk.peek(Rig.L), turned(2));
        CHECK.due("A of L, which is Q turned by then", desk.wide(), 2);
        desk = bankEnds().doesExtended(043777);
        CHECK.due("A of 03777", desk.peek(Rig.A), turned(5));
        CHECK.due("L behind 03777", desk.peek(Rig.L), turned(Rig.EXTEND));
    }

    private static void addedIsExtended() {
        CHECK.sentence("Promises 11 and 14, extended code 5",
                "[K] is added to the next instruction, which is extended.");
        Rig rig = new Rig().wide(9).poke(0200, 4).poke(X, 0).program(Rig.EXTEND, 050000 + X, 060200, 060200).run(2);
        CHECK.due("+0 is added", rig.desk.told(4), 0);
        CHECK.due("and the next one extended", rig.desk.told(3), 1);
        CHECK.due("less", rig.run(1).desk.wide(), 5);
        CHECK.due("nothing is added then", rig.desk.told(4), GuidanceDesk.NONE);
        CHECK.due("nor extended", rig.desk.told(3), 0);
        CHECK.due("more", rig.run(1).desk.wide(), 9);
        rig = new Rig().poke(Rig.ZRUPT, 0777).poke(Rig.BRUPT, 077777);
        CHECK.due("K = 017 is no RESUME here", rig.doesExtended(050017).told(4), 077777);
        CHECK.due("Z", rig.desk.peek(Rig.Z), 04002);
        CHECK.due("the last address", new Rig().programAt(07777, 5).doesExtended(057777).told(4), 5);
        CHECK.due("A cut", new Rig().wide(0137776).doesExtended(050000).told(4), 077776);
        // The sum of 037777 and 1, cut, is +0: extended that is channel 0, not a call.
        rig = new Rig().wide(5).poke(X, 1).program(Rig.EXTEND, 050000 + X, 037777).run(3);
        CHECK.due("A of channel 0", rig.desk.wide(), 0);
        CHECK.due("Z behind channel 0", rig.desk.peek(Rig.Z), 04003);
    }

    private static void subtract() {
        CHECK.sentence("Promise 11, extended code 6, part 0", "A becomes the sum of A and [E] turned.");
        less(0, 0, 0177777);
        less(0, 077777, 0);
        less(5, 5, 0177777);
        less(0177777, 0, 0177777);
        less(037777, 077776, 040000);
        less(0140000, 1, 0137777);
        less(040000, 1, 037777);
        less(077777, 077776, 0100000);
        less(0100000, 1, 077777);
        CHECK.due("A less A cut", new Rig().wide(040005).doesExtended(060000).wide(), 040000);
    }

    private static void less(int a, int word, int due) {
        CHECK.due(a + " less " + word, new Rig().wide(a).poke(X, word).doesExtended(060000 + X).wide(), due);
    }

    private static void jumpIfNotAbove() {
        CHECK.sentence("Promise 11, extended code 6",
                "Other parts: Z becomes K if A is +0, -0, or its higher sign is 1 (1), else nothing (2).");
        for (int k : new int[] {02000, 07777}) {
            for (int a : new int[] {0, 0100000, 0137777, 0140000, 0177776, 0177777}) {
                GuidanceDesk desk = new Rig().wide(a).program(Rig.EXTEND, 060000 + k).run(1).desk;
                CHECK.due("cycles with " + a, desk.step(1), 1);
                CHECK.due("Z with " + a, desk.peek(Rig.Z), k);
            }
            for (int a : new int[] {1, 037777, 040000, 077777}) {
                GuidanceDesk desk = new Rig().wide(a).program(Rig.EXTEND, 060000 + k).run(1).desk;
                CHECK.due("cycles with " + a, desk.step(1), 2);
                CHECK.due("Z with " + a, desk.peek(Rig.Z), 04002);
                CHECK.due("A with " + a, desk.wide(), a);
            }
        }
    }

    private static void multiply() {
        CHECK.sentence("Promise 11, extended code 7", "the product of the numbers of A cut and [K]: its absolute"
                + " value by 040000 in A, the rest in L, both turned if it is below 0.");
        times(037777, 037777, 037776, 1);
        times(040000, 040000, 037776, 1);
        times(037777, 040000, turned(037776), turned(1));
        times(040000, 037777, turned(037776), turned(1));
        times(1, 037777, 0, 037777);
        times(2, 020000, 1, 0);
        times(turned(2), 020000, turned(1), MINUS_ZERO);
        times(1, turned(1), MINUS_ZERO, turned(1));
        times(turned(1), turned(1), 0, 1);
        GuidanceDesk desk = new Rig().wide(040003).poke(X, 5).doesExtended(070000 + X);
        CHECK.due("A with an overflow, cut", desk.peek(Rig.L), 15);
        desk = new Rig().wide(3).programAt(07777, 5).doesExtended(077777);
        CHECK.due("by the last address", desk.peek(Rig.L), 15);
    }

    private static void multiplyToZero() {
        CHECK.sentence("Promise 11, extended code 7", "both turned if it is below 0.");
        for (int zero : new int[] {0, MINUS_ZERO}) {
            for (int word : new int[] {0, 1, 037777, 040000, turned(1), MINUS_ZERO}) {
                times(zero, word, 0, 0);
                times(word, zero, 0, 0);
            }
        }
    }

    private static void times(int a, int word, int dueA, int dueL) {
        GuidanceDesk desk = new Rig().poke(Rig.A, a).poke(Rig.L, 0123).poke(X, word).doesExtended(070000 + X);
        CHECK.due("A of " + a + " times " + word, desk.wide(), Rig.widened(dueA));
        CHECK.due("L of " + a + " times " + word, desk.peek(Rig.L), dueL);
    }
}
