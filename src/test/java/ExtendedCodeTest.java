/** Promise 11: what the extended instructions do, and how many cycles they take. */
public final class ExtendedCodeTest {
    private static final int X = 0100;

    private static final Check CHECK = new Check();

    public static void main(String[] args) {
        channels();
        alarm();
        divide();
        divideTooMuch();
        divideByRegisters();
        jumpIfZero();
        jumpIfNotAbove();
        subtractPlain();
        exchangeQ();
        augment();
        diminish();
        takeDouble();
        turnDouble();
        addToNext();
        subtract();
        multiply();
        lastsForOne();
        CHECK.end();
    }

    /** Does one extended instruction at 04000, the word before being the one that extends it. */
    private static GuidanceDesk done(Rig rig, int word, int cycles, int z) {
        rig.programAt(04000, Rig.EXTEND, word);
        String name = Integer.toOctalString(word);
        CHECK.due("cycles of extending", rig.desk.step(1), 1);
        CHECK.due("cycles of extended " + name, rig.desk.step(1), cycles);
        CHECK.due("Z behind extended " + name, rig.desk.peek(Rig.Z), z);
        return rig.desk;
    }

    private static void channels() {
        int word = 040311;
        int a = 077761;
        for (int way = 0; way <= 6; way++) {
            Rig rig = new Rig().wide(0177761);
            rig.desk.send(0456, word);
            GuidanceDesk desk = done(rig, way * 01000 + 0456, 2, 04002);
            int[] dueAs = {word, a, a & word, a & word, a | word, a | word, a ^ word};
            int[] dueChannels = {word, a, word, a & word, word, a | word, word};
            CHECK.due("A of way " + way, desk.peek(Rig.A), dueAs[way]);
            CHECK.due("channel of way " + way, desk.channel(0456), dueChannels[way]);
            CHECK.due("no overflow of way " + way, desk.wide(),
                    dueAs[way] < 040000 ? dueAs[way] : dueAs[way] + 0100000);
            CHECK.due("no alarm", desk.told(5), 0);
        }
        channelRegisters();
        channelLamps();
        CHECK.due("A of an overflow", done(overflowed(), 00456, 2, 04002).wide(), 0170);
        GuidanceDesk desk = done(overflowed(), 01456, 2, 04002);
        CHECK.due("A kept by writing", desk.wide(), 040017);
        CHECK.due("A written cut", desk.channel(0456), 017);
        CHECK.due("A cut and", done(overflowed(), 02456, 2, 04002).wide(), 010);
        CHECK.due("A cut or", done(overflowed(), 04456, 2, 04002).wide(), 0177);
        CHECK.due("A cut exclusive or", done(overflowed(), 06456, 2, 04002).wide(), 0167);
    }

    private static Rig overflowed() {
        Rig rig = new Rig().wide(040017);
        rig.desk.send(0456, 0170);
        return rig;
    }

    private static void channelRegisters() {
        GuidanceDesk desk = done(new Rig().wide(5), 01001, 2, 04002);
        CHECK.due("L by its channel", desk.peek(Rig.L), 5);
        desk = done(new Rig().wide(5), 01002, 2, 04002);
        CHECK.due("Q by its channel", desk.peek(Rig.Q), 5);
        CHECK.due("A of L", done(new Rig().poke(Rig.L, 7), 00001, 2, 04002).wide(), 7);
        CHECK.due("A of Q", done(new Rig().poke(Rig.Q, 7), 00002, 2, 04002).wide(), 7);
        desk = done(new Rig().wide(5), 01000, 2, 04002);
        CHECK.due("channel 0 stays", desk.channel(0), 0);
        CHECK.due("A with channel 0", done(new Rig().wide(5), 05000, 2, 04002).wide(), 5);
        CHECK.due("A and channel 0", done(new Rig().wide(5), 03000, 2, 04002).wide(), 0);
        // Extended, the numbers of the three plain orders are channels.
        for (int k : new int[] {Rig.RELEASE, Rig.INHIBIT, Rig.EXTEND}) {
            Rig rig = new Rig();
            rig.desk.send(k, 0123);
            desk = done(rig, k, 2, 04002);
            CHECK.due("channel " + k, desk.wide(), 0123);
            CHECK.due("not inhibited", desk.told(0), 0);
            CHECK.due("not extended", desk.told(3), 0);
        }
    }

    private static void channelLamps() {
        int row = 013 << 11;
        CHECK.due("lamps written", done(new Rig().wide(row + 0100000 | 0123), 01010, 2, 04002).lamps(013),
                0123);
        Rig rig = new Rig().wide(row + 0100000 | 0123);
        rig.desk.send(010, row | 077);
        GuidanceDesk desk = done(rig, 03010, 2, 04002);
        CHECK.due("lamps of both", desk.lamps(013), 023);
        desk = done(rig.poke(Rig.Z, 04000).poke(Rig.A, 0400), 05010, 2, 04002);
        CHECK.due("lamps of either", desk.lamps(013), 0423);
        rig.poke(Rig.A, 04000).poke(Rig.Z, 04000);
        desk = done(rig, 04010, 2, 04002);
        CHECK.due("lamps not written", desk.lamps(013), 0423);
    }

    private static void alarm() {
        Rig rig = new Rig().wide(5).poke(Rig.L, 6).poke(Rig.Z, 04000);
        rig.desk.send(5, 1);
        rig.desk.want(3);
        rig.desk.want(9);
        rig.programAt(04000, 014100).programAt(04100, Rig.INHIBIT, Rig.EXTEND, 07123);
        rig.programAt(04014, 014100);
        CHECK.due("cycles of an alarm", rig.desk.step(5), 3 + 1 + 1 + 1 + 2);
        CHECK.due("alarms", rig.desk.told(5), 1);
        CHECK.due("Z of an alarm", rig.desk.peek(Rig.Z), 04000);
        CHECK.due("inhibited", rig.desk.told(0), 1);
        CHECK.due("none going on", rig.desk.told(1), 0);
        CHECK.due("none wanted", rig.desk.told(2), 0);
        CHECK.due("not extended", rig.desk.told(3), 0);
        CHECK.due("a channel of an alarm", rig.desk.channel(5), 0);
        CHECK.due("A of an alarm", rig.desk.wide(), 5);
        CHECK.due("L of an alarm", rig.desk.peek(Rig.L), 6);
        rig.run(4);
        CHECK.due("alarms again", rig.desk.told(5), 2);
        rig.desk.restart();
        CHECK.due("alarms behind a restart", rig.desk.told(5), 2);
        CHECK.due("alarm with 7000", done(new Rig(), 07000, 2, 04000).told(5), 1);
        CHECK.due("alarm with 7777", done(new Rig(), 07777, 2, 04000).told(5), 1);
    }

    private static void divide() {
        divide(1, 0, 2, 020000, 0);
        divide(1, 0, 3, 5461, 1);
        divide(1, 0, turned(3), turned(5461), 1);
        divide(turned(1), turned(0), 3, turned(5461), turned(1));
        divide(turned(1), 0, turned(3), 5461, turned(1));
        divide(1, turned(1), 3, 5461, 0);
        divide(turned(1), 1, 3, turned(5461), turned(0));
        divide(0, turned(2), 3, turned(0), turned(2));
        divide(turned(0), 5, 7, 0, 5);
        divide(turned(0), 5, turned(7), turned(0), 5);
        divide(2, 037777, 3, 16383, 2);
        divide(3, turned(1), 3, 16383, 2);
        divide(0, 0, 5, 0, 0);
        divide(0, turned(0), turned(5), turned(0), 0);
        divide(turned(0), 0, 5, turned(0), turned(0));
        divide(turned(0), 0, turned(5), 0, turned(0));
        divide(0, 5, 1, 5, 0);
        divide(0, 5, turned(1), turned(5), 0);
        divide(0, turned(1), 3, turned(0), turned(1));
        divide(0, 1, 3, 0, 1);
        divide(037776, 037777, 037777, 16383, 16382);
        CHECK.due("A cut is divided", done(new Rig().wide(040001).poke(X, 3), 010000 + X, 6, 04002).wide(),
                5461);
    }

    private static void divideTooMuch() {
        divide(3, 0, 3, 037777, 0);
        divide(3, 5, 3, 037777, 5);
        divide(turned(3), 0, 3, 040000, 0);
        divide(turned(3), 5, turned(2), 037777, 5);
        divide(3, 5, turned(2), 040000, 5);
        divide(0, 0, 0, 037777, 0);
        divide(0, 0, turned(0), 040000, 0);
        divide(turned(0), 0, turned(0), 037777, 0);
        divide(turned(0), 0, 0, 040000, 0);
        // The sign is that of A here, whatever the sign of the whole is.
        divide(0, turned(5), 0, 037777, turned(5));
    }

    private static int turned(int word) {
        return 077777 - word;
    }

    private static void divide(int a, int l, int by, int dueA, int dueL) {
        Rig rig = new Rig().poke(Rig.A, a).poke(Rig.L, l).poke(X, by);
        GuidanceDesk desk = done(rig, 010000 + X, 6, 04002);
        CHECK.due("A of " + a + " " + l + " by " + by, desk.peek(Rig.A), dueA);
        CHECK.due("L of " + a + " " + l + " by " + by, desk.peek(Rig.L), dueL);
        CHECK.due("two signs alike", desk.wide() >> 15, desk.wide() >> 14 & 1);
        CHECK.due("the divisor", desk.peek(X), by);
    }

    private static void divideByRegisters() {
        GuidanceDesk desk = done(new Rig().wide(3).poke(Rig.L, turned(1)), 010000, 6, 04002);
        CHECK.due("A of dividing by A", desk.wide(), 16383);
        CHECK.due("L of dividing by A", desk.peek(Rig.L), 2);
        desk = done(new Rig().wide(1).poke(Rig.L, 5), 010001, 6, 04002);
        CHECK.due("A of dividing by L", desk.wide(), 3277);
        CHECK.due("L of dividing by L", desk.peek(Rig.L), 4);
    }

    private static void jumpIfZero() {
        for (int k : new int[] {02000, 04567, 07777}) {
            done(new Rig().wide(0), 010000 + k, 1, k);
            done(new Rig().wide(0177777), 010000 + k, 1, k);
            for (int a : new int[] {1, 037777, 040000, 0100000, 0137777, 0140000, 0177776}) {
                CHECK.due("A kept", done(new Rig().wide(a), 010000 + k, 2, 04002).wide(), a);
            }
        }
    }

    private static void jumpIfNotAbove() {
        for (int k : new int[] {02000, 04567, 07777}) {
            for (int a : new int[] {0, 0100000, 0137777, 0140000, 0177776, 0177777}) {
                CHECK.due("A kept", done(new Rig().wide(a), 060000 + k, 1, k).wide(), a);
            }
            for (int a : new int[] {1, 037777, 040000, 077777}) {
                done(new Rig().wide(a), 060000 + k, 2, 04002);
            }
        }
    }

    private static void subtractPlain() {
        subtractPlain(5, 3, 2);
        subtractPlain(3, 5, 0177775);
        subtractPlain(0, 0, 0);
        subtractPlain(0, 077777, 1);
        subtractPlain(077777, 0, 0177776);
        subtractPlain(0, 040000, 037777);
        subtractPlain(040000, 1, 037777);
        subtractPlain(0, 037777, 0140000);
        subtractPlain(040017, 7, 0140007);
        GuidanceDesk desk = done(new Rig().wide(040017).poke(X, 7), 020000 + X, 2, 04002);
        CHECK.due("A cut less", desk.wide(), 010);
        CHECK.due("A less A", done(new Rig().wide(040017), 020000, 2, 04002).wide(), 0);
    }

    private static void subtractPlain(int a, int word, int due) {
        GuidanceDesk desk = done(new Rig().poke(Rig.A, a).poke(X, word), 020000 + X, 2, 04002);
        CHECK.due(a + " less " + word, desk.wide(), due);
    }

    private static void exchangeQ() {
        Rig rig = new Rig().wide(3).poke(Rig.L, 4).poke(Rig.Q, 5).poke(X, 077770);
        GuidanceDesk desk = done(rig, 022000 + X, 2, 04002);
        CHECK.due("Q exchanged", desk.peek(Rig.Q), 077770);
        CHECK.due("memory exchanged", desk.peek(X), 5);
        CHECK.due("A not exchanged", desk.wide(), 3);
        CHECK.due("L not exchanged", desk.peek(Rig.L), 4);
        desk = done(new Rig().poke(Rig.Q, 5), 022002, 2, 04002);
        CHECK.due("Q with itself", desk.peek(Rig.Q), 5);
        desk = done(new Rig().wide(040001).poke(Rig.Q, 077770), 022000, 2, 04002);
        CHECK.due("A with Q", desk.wide(), 0177770);
        CHECK.due("Q with A", desk.peek(Rig.Q), 1);
    }

    private static void augment() {
        int[] from = {0, 5, 037777, 040000, 077770, 077776, 077777};
        int[] to = {1, 6, 0, 077777, 077767, 077775, 077776};
        for (int i = 0; i < from.length; i++) {
            GuidanceDesk desk = done(new Rig().wide(3).poke(X, from[i]), 024000 + X, 2, 04002);
            CHECK.due("augmented " + from[i], desk.peek(X), to[i]);
            CHECK.due("A kept", desk.wide(), 3);
        }
        CHECK.due("A augmented", done(new Rig().wide(040004), 024000, 2, 04002).wide(), 5);
        CHECK.due("an editor augmented", done(new Rig().poke(020, 4), 024020, 2, 04002).peek(020), 040001);
    }

    private static void diminish() {
        int[] from = {0, 1, 5, 037777, 040000, 077770, 077776, 077777};
        int[] to = {0, 0, 4, 037776, 040001, 077771, 077777, 077777};
        for (int i = 0; i < from.length; i++) {
            GuidanceDesk desk = done(new Rig().wide(3).poke(X, from[i]), 026000 + X, 2, 04002);
            CHECK.due("diminished " + from[i], desk.peek(X), to[i]);
            CHECK.due("A kept", desk.wide(), 3);
        }
        CHECK.due("A diminished", done(new Rig().wide(040004), 026000, 2, 04002).wide(), 3);
        CHECK.due("A not written", done(new Rig().wide(040000), 026000, 2, 04002).wide(), 040000);
        CHECK.due("-0 not written", done(new Rig().wide(0137777), 026000, 2, 04002).wide(), 0137777);
        CHECK.due("an editor diminished", done(new Rig().poke(020, 010), 026020, 2, 04002).peek(020),
                040001);
    }

    private static void takeDouble() {
        GuidanceDesk desk = done(new Rig().poke(X, 077770).poke(X + 1, 7), 030000 + X, 3, 04002);
        CHECK.due("A of two", desk.wide(), 0177770);
        CHECK.due("L of two", desk.peek(Rig.L), 7);
        desk = done(new Rig().wide(1).poke(Rig.L, 2).poke(Rig.Q, 3), 030001, 3, 04002);
        CHECK.due("L of Q", desk.peek(Rig.L), 3);
        CHECK.due("A of L then", desk.wide(), 3);
        desk = done(new Rig().wide(040001).poke(Rig.L, 2), 030000, 3, 04002);
        CHECK.due("A of A", desk.wide(), 1);
        CHECK.due("L of L", desk.peek(Rig.L), 2);
        desk = done(new Rig().programAt(07777, 0123).wide(040005), 037777, 3, 04002);
        CHECK.due("L of A, behind the last address", desk.peek(Rig.L), 5);
        CHECK.due("A of the last address", desk.wide(), 0123);
        Rig rig = new Rig().poke(0377, 6);
        rig.desk.fix(0, 0, 8);
        desk = done(rig, 031777, 3, 04002);
        CHECK.due("L of the first fixed address", desk.peek(Rig.L), 8);
        CHECK.due("A of the last erasable one", desk.wide(), 6);
    }

    private static void turnDouble() {
        GuidanceDesk desk = done(new Rig().poke(X, 077770).poke(X + 1, 7), 040000 + X, 3, 04002);
        CHECK.due("A of two turned", desk.wide(), 7);
        CHECK.due("L of two turned", desk.peek(Rig.L), 077770);
        desk = done(new Rig().wide(1).poke(Rig.L, 2).poke(Rig.Q, 3), 040001, 3, 04002);
        CHECK.due("L of Q turned", desk.peek(Rig.L), 077774);
        CHECK.due("A of L turned then", desk.wide(), 3);
        desk = done(new Rig().wide(040001).poke(Rig.L, 2), 040000, 3, 04002);
        CHECK.due("A of A turned", desk.wide(), 0177776);
        CHECK.due("L of L turned", desk.peek(Rig.L), 077775);
        desk = done(new Rig().programAt(07777, 0123).wide(040005), 047777, 3, 04002);
        CHECK.due("L turned behind the last address", desk.peek(Rig.L), 077772);
    }

    private static void addToNext() {
        Rig rig = new Rig().programAt(04000, Rig.EXTEND, 057000, 070100).programAt(07000, 5);
        rig.poke(0105, 6).wide(7).run(1);
        CHECK.due("cycles of adding", rig.desk.step(1), 2);
        CHECK.due("what is added", rig.desk.told(4), 5);
        CHECK.due("extended too", rig.desk.told(3), 1);
        CHECK.due("cycles of the sum", rig.desk.step(1), 3);
        CHECK.due("the product", rig.desk.peek(Rig.L), 42);
        CHECK.due("no longer added", rig.desk.told(4), GuidanceDesk.NONE);
        CHECK.due("no longer extended", rig.desk.told(3), 0);
        // The number of RESUME has no meaning of its own here.
        rig = new Rig().poke(Rig.BRUPT, 5).poke(Rig.ZRUPT, 0123);
        CHECK.due("word 017 is added", done(rig, Rig.RESUME, 2, 04002).told(4), 5);
    }

    private static void subtract() {
        subtract(5, 3, 2);
        subtract(3, 3, 0177777);
        subtract(3, 5, 0177775);
        subtract(037777, 077776, 040000);
        subtract(0140000, 1, 0137777);
        subtract(040000, 1, 037777);
        subtract(0, 077777, 0);
        CHECK.due("A less A", done(new Rig().wide(040003), 060000, 2, 04002).wide(), 040000);
    }

    private static void subtract(int a, int word, int due) {
        GuidanceDesk desk = done(new Rig().wide(a).poke(X, word), 060000 + X, 2, 04002);
        CHECK.due(a + " less " + word + " as a sum", desk.wide(), due);
    }

    private static void multiply() {
        multiply(3, 5, 0, 15);
        multiply(037777, 037777, 037776, 1);
        multiply(0140000, 037777, 040001, 077776);
        multiply(037777, 040000, 040001, 077776);
        multiply(0140000, 040000, 037776, 1);
        multiply(077776 + 0100000, 5, 077777, 077772);
        multiply(1, 077776, 077777, 077776);
        multiply(0, 077772, 0, 0);
        multiply(0177777, 5, 0, 0);
        multiply(020000, 2, 1, 0);
        multiply(020000, 077775, 077776, 077777);
        multiply(040003, 5, 0, 15);
        GuidanceDesk desk = done(new Rig().wide(040003), 070000, 3, 04002);
        CHECK.due("A by A", desk.peek(Rig.L), 9);
        desk = done(new Rig().wide(3).poke(Rig.L, 7), 070001, 3, 04002);
        CHECK.due("A by L", desk.peek(Rig.L), 21);
        desk = done(new Rig().wide(3).programAt(07654, 8), 077654, 3, 04002);
        CHECK.due("A by a fixed word", desk.peek(Rig.L), 24);
    }

    private static void multiply(int a, int word, int dueA, int dueL) {
        Rig rig = new Rig().wide(a).poke(Rig.L, 0123).poke(X, word);
        GuidanceDesk desk = done(rig, 070000 + X, 3, 04002);
        CHECK.due("A of " + a + " times " + word, desk.peek(Rig.A), dueA);
        CHECK.due("L of " + a + " times " + word, desk.peek(Rig.L), dueL);
        CHECK.due("two signs alike", desk.wide() >> 15, desk.wide() >> 14 & 1);
    }

    private static void lastsForOne() {
        Rig rig = new Rig().programAt(04000, Rig.EXTEND, 060000 + X, 060000 + X).wide(9).poke(X, 4);
        CHECK.due("extended", rig.run(1).desk.told(3), 1);
        CHECK.due("less", rig.run(1).desk.wide(), 5);
        CHECK.due("no longer extended", rig.desk.told(3), 0);
        CHECK.due("more", rig.run(1).desk.wide(), 9);
    }
}
