/** Promises 8, 10, 11 and 14: interrupts that are wanted, come, and end. */
public final class InterruptTest {
    private static final int X = 0100;
    private static final int COUNT_X = 024000 + X;
    private static final int JUMP_HERE = 014000;

    private static final Check CHECK = new Check();

    public static void main(String[] args) {
        comes();
        leastFirst();
        notWhileInhibited();
        notWhileGoingOn();
        notWithOverflow();
        notBehindExtending();
        notBehindAdding();
        notBehindResume();
        goesAndReturns();
        fromTheLastAddress();
        byKey();
        refusals();
        CHECK.end();
    }

    private static void comes() {
        for (int n = 1; n <= 10; n++) {
            Rig rig = new Rig().program(COUNT_X, COUNT_X).run(1);
            rig.desk.want(n);
            CHECK.due("cycles of an interrupt", rig.desk.step(1), 3);
            CHECK.due("Z of interrupt " + n, rig.desk.peek(Rig.Z), 04000 + 4 * n);
            CHECK.due("ZRUPT", rig.desk.peek(Rig.ZRUPT), 04002);
            CHECK.due("BRUPT", rig.desk.peek(Rig.BRUPT), COUNT_X);
            CHECK.due("going on", rig.desk.told(1), 1);
            CHECK.due("no longer wanted", rig.desk.told(2), 0);
            CHECK.due("not inhibited", rig.desk.told(0), 0);
            CHECK.due("no instruction was done", rig.desk.peek(X), 1);
            CHECK.due("cycles", rig.desk.cycles(), 5);
        }
    }

    private static void leastFirst() {
        GuidanceDesk desk = new GuidanceDesk();
        desk.want(7);
        desk.want(10);
        desk.want(4);
        desk.step(1);
        CHECK.due("the least", desk.peek(Rig.Z), 04020);
        CHECK.due("the others", desk.told(2), 1 << 6 | 1 << 9);
    }

    private static void notWhileInhibited() {
        Rig rig = new Rig().program(Rig.INHIBIT, COUNT_X, Rig.RELEASE, COUNT_X).run(1);
        rig.desk.want(1);
        CHECK.due("counted", rig.run(1).desk.peek(X), 1);
        CHECK.due("still wanted", rig.desk.told(2), 1);
        CHECK.due("none going on", rig.desk.told(1), 0);
        CHECK.due("released", rig.run(1).desk.told(1), 0);
        CHECK.due("then it comes", rig.run(1).desk.told(1), 1);
        CHECK.due("ZRUPT", rig.desk.peek(Rig.ZRUPT), 04004);
    }

    private static void notWhileGoingOn() {
        Rig rig = new Rig().program(COUNT_X).programAt(04010, COUNT_X, Rig.RELEASE, Rig.RESUME);
        rig.desk.want(2);
        rig.run(1);
        rig.desk.want(1);
        CHECK.due("counted", rig.run(1).desk.peek(X), 1);
        CHECK.due("going on", rig.desk.told(1), 1);
        CHECK.due("the other one is wanted", rig.desk.told(2), 1);
        rig.run(2);
        CHECK.due("none is going on behind RESUME", rig.desk.told(1), 0);
        CHECK.due("still wanted", rig.desk.told(2), 1);
        rig.run(1);
        CHECK.due("what was left is done first", rig.desk.peek(X), 2);
        rig.run(1);
        CHECK.due("then the other comes", rig.desk.peek(Rig.Z), 04004);
        CHECK.due("ZRUPT of the other", rig.desk.peek(Rig.ZRUPT), 04002);
    }

    private static void notWithOverflow() {
        for (int a : new int[] {040000, 077777, 0100000, 0137777}) {
            Rig rig = new Rig().wide(a).program(COUNT_X, 054000 + X + 1);
            rig.desk.want(1);
            CHECK.due("counted with overflow", rig.run(1).desk.peek(X), 1);
            CHECK.due("none with overflow", rig.desk.told(1), 0);
            CHECK.due("one behind it", rig.run(2).desk.told(1), 1);
            CHECK.due("ZRUPT behind it", rig.desk.peek(Rig.ZRUPT), 04004);
        }
    }

    private static void notBehindExtending() {
        Rig rig = new Rig().program(Rig.EXTEND, 060000 + X, COUNT_X).wide(9).poke(X, 4).run(1);
        rig.desk.want(1);
        CHECK.due("less, not interrupted", rig.run(1).desk.wide(), 5);
        CHECK.due("none going on", rig.desk.told(1), 0);
        CHECK.due("one going on", rig.run(1).desk.told(1), 1);
    }

    private static void notBehindAdding() {
        // What is added is 0, and even that holds the interrupt back.
        Rig rig = new Rig().program(050000 + X, COUNT_X, COUNT_X).run(1);
        rig.desk.want(1);
        CHECK.due("counted, not interrupted", rig.run(1).desk.peek(X), 1);
        CHECK.due("one going on", rig.run(1).desk.told(1), 1);
        rig = new Rig().program(Rig.EXTEND, 050000 + X, 060000 + X, COUNT_X).run(2);
        rig.desk.want(1);
        CHECK.due("none behind an extended one", rig.run(1).desk.told(1), 0);
        CHECK.due("one then", rig.run(1).desk.told(1), 1);
    }

    private static void notBehindResume() {
        Rig rig = new Rig().program(Rig.RESUME).programAt(05000, COUNT_X);
        rig.poke(Rig.ZRUPT, 05000).poke(Rig.BRUPT, COUNT_X).run(1);
        rig.desk.want(1);
        CHECK.due("what was left is done", rig.run(1).desk.peek(X), 1);
        CHECK.due("none going on", rig.desk.told(1), 0);
        CHECK.due("one going on", rig.run(1).desk.told(1), 1);
    }

    private static void goesAndReturns() {
        Rig rig = new Rig().program(COUNT_X, COUNT_X, COUNT_X, JUMP_HERE + 3);
        rig.programAt(04014, Rig.RESUME).run(1);
        rig.desk.want(3);
        CHECK.due("there, back, and on", rig.desk.step(4), 3 + 2 + 2 + 2);
        CHECK.due("all were counted", rig.desk.peek(X), 3);
        CHECK.due("Z behind them", rig.desk.peek(Rig.Z), 04003);
        CHECK.due("inhibited is another thing", rig.desk.told(0), 0);
        rig = new Rig().program(COUNT_X).programAt(04004, Rig.INHIBIT, Rig.RESUME);
        rig.desk.want(1);
        CHECK.due("RESUME leaves it inhibited", rig.run(3).desk.told(0), 1);
        CHECK.due("none going on", rig.desk.told(1), 0);
    }

    private static void fromTheLastAddress() {
        Rig rig = new Rig().programAt(07777, COUNT_X).poke(Rig.Z, 07777);
        rig.desk.want(1);
        rig.run(1);
        CHECK.due("ZRUPT from the last address", rig.desk.peek(Rig.ZRUPT), 0);
        CHECK.due("BRUPT from the last address", rig.desk.peek(Rig.BRUPT), COUNT_X);
        rig = new Rig().poke(Rig.A, 0123).poke(Rig.Z, 0);
        rig.desk.want(1);
        CHECK.due("BRUPT from A", rig.run(1).desk.peek(Rig.BRUPT), 0123);
    }

    private static void byKey() {
        Rig rig = new Rig();
        rig.desk.key(021);
        CHECK.due("Z of a key", rig.run(1).desk.peek(Rig.Z), 04024);
        CHECK.due("the key", rig.desk.channel(015), 021);
        CHECK.due("no longer wanted", rig.desk.told(2), 0);
    }

    private static void refusals() {
        GuidanceDesk desk = new GuidanceDesk();
        CHECK.refused("told -1", () -> desk.told(-1));
        CHECK.refused("told 6", () -> desk.told(6));
        CHECK.refused("told far", () -> desk.told(Integer.MAX_VALUE));
    }
}
