/** Promises 10, 11 and 14, by the terms of interrupts: when one comes, when none does, and how it ends. */
public final class InterruptEdgesTest {
    private static final int X = 0100;
    private static final int COUNT_X = 024000 + X;

    private static final Check CHECK = new Check();

    public static void main(String[] args) {
        firstAndLast();
        theLeastComes();
        noneIsWanted();
        wantedTwice();
        notWhenInhibited();
        notWhenOneIsGoingOn();
        notWithAnOverflow();
        notBehindExtending();
        notBehindAdding();
        notBehindResume();
        behindOtherInstructions();
        zruptGoesRound();
        bruptIsTheWordAtZ();
        bruptFromTheRegisters();
        inPlaceOfAnInstruction();
        goingOnUntilResume();
        possibleBehindResume();
        resumeLeavesInhibition();
        CHECK.end();
    }

    private static Rig wanting(Rig rig, int n) {
        rig.desk.want(n);
        return rig;
    }

    private static void firstAndLast() {
        CHECK.sentence("Promises 10 and 11, interrupts", "INTERRUPTS 1 .. 10 can be WANTED.");
        for (int n = 1; n <= 10; n++) {
            GuidanceDesk desk = wanting(new Rig(), n).desk;
            CHECK.due("wanted " + n, desk.told(2), 1 << n - 1);
            CHECK.due("cycles of " + n, desk.step(1), 3);
            CHECK.due("Z of " + n, desk.peek(Rig.Z), 04000 + 4 * n);
            CHECK.due("wanted behind " + n, desk.told(2), 0);
            CHECK.due("going on of " + n, desk.told(1), 1);
        }
    }

    private static void theLeastComes() {
        CHECK.sentence("Promise 11, interrupts", "the least one that is wanted comes");
        for (int n = 1; n <= 10; n++) {
            Rig rig = new Rig();
            for (int other = 10; other >= n; other--) {
                rig.desk.want(other);
            }
            rig.run(1);
            CHECK.due("Z of the least, " + n, rig.desk.peek(Rig.Z), 04000 + 4 * n);
            CHECK.due("wanted above " + n, rig.desk.told(2), 02000 - (1 << n));
        }
    }

    private static void noneIsWanted() {
        CHECK.sentence("Promise 11, interrupts", "the least one that is wanted comes");
        GuidanceDesk desk = new Rig().does(COUNT_X);
        CHECK.due("an instruction where none is wanted", desk.peek(X), 1);
        CHECK.due("none going on", desk.told(1), 0);
    }

    private static void wantedTwice() {
        CHECK.sentence("Promise 11, interrupts", "it is no longer wanted");
        Rig rig = wanting(wanting(new Rig(), 10), 10).program(COUNT_X).programAt(04050, Rig.RESUME, COUNT_X);
        CHECK.due("wanted behind it", rig.run(1).desk.told(2), 0);
        CHECK.due("none comes again", rig.run(3).desk.told(1), 0);
        CHECK.due("counted behind RESUME", rig.desk.peek(X), 1);
    }

    private static void notWhenInhibited() {
        CHECK.sentence("Promise 11, interrupts", "if they are not inhibited");
        Rig rig = new Rig().program(Rig.INHIBIT, COUNT_X, COUNT_X, Rig.RELEASE, COUNT_X).run(1);
        wanting(rig, 1).run(3);
        CHECK.due("counted while inhibited", rig.desk.peek(X), 2);
        CHECK.due("still wanted", rig.desk.told(2), 1);
        CHECK.due("none going on", rig.desk.told(1), 0);
        CHECK.due("cycles of the one that comes then", rig.desk.step(1), 3);
        CHECK.due("ZRUPT of it", rig.desk.peek(Rig.ZRUPT), 04005);
        rig = wanting(new Rig(), 1).program(Rig.INHIBIT);
        CHECK.due("before the one that inhibits it comes", rig.run(1).desk.told(1), 1);
    }

    private static void notWhenOneIsGoingOn() {
        CHECK.sentence("Promise 11, interrupts", "none is going on");
        Rig rig = wanting(new Rig(), 10).programAt(04050, COUNT_X, Rig.RELEASE, COUNT_X).run(1);
        wanting(rig, 1).run(3);
        CHECK.due("counted while it goes on", rig.desk.peek(X), 2);
        CHECK.due("a lesser one is still wanted", rig.desk.told(2), 1);
        wanting(rig, 10).run(1);
        CHECK.due("so is the same one again", rig.desk.told(2), 01001);
    }

    private static void notWithAnOverflow() {
        CHECK.sentence("Promise 11, interrupts", "and A has no overflow");
        for (int a : new int[] {040000, 077777, 0100000, 0137777}) {
            Rig rig = wanting(new Rig().wide(a), 1).program(COUNT_X, COUNT_X).run(1);
            CHECK.due("counted with " + a, rig.desk.peek(X), 1);
            CHECK.due("still wanted with " + a, rig.desk.told(2), 1);
            CHECK.due("A poked, it comes", rig.poke(Rig.A, 0).run(1).desk.told(1), 1);
        }
        for (int a : new int[] {0, 037777, 0140000, 0177777}) {
            CHECK.due("one comes with " + a, wanting(new Rig().wide(a), 1).run(1).desk.told(1), 1);
        }
    }

    private static void notBehindExtending() {
        CHECK.sentence("Promise 11, interrupts", "(but not behind one that extends it or is added to it");
        Rig rig = wanting(new Rig().program(Rig.EXTEND, COUNT_X, COUNT_X).run(1), 1);
        CHECK.due("augmented", rig.run(1).desk.peek(X), 1);
        CHECK.due("none going on", rig.desk.told(1), 0);
        CHECK.due("comes behind the extended one", rig.run(1).desk.told(1), 1);
        CHECK.due("ZRUPT of it", rig.desk.peek(Rig.ZRUPT), 04003);
    }

    private static void notBehindAdding() {
        CHECK.sentence("Promise 11, interrupts", "(but not behind one that extends it or is added to it");
        for (int added : new int[] {0, 077777, 1}) {
            Rig rig = wanting(new Rig().poke(0200, added).program(050200, COUNT_X).run(1), 1).run(1);
            CHECK.due("none behind adding " + added, rig.desk.told(1), 0);
            CHECK.due("counted", rig.desk.peek(added == 1 ? X + 1 : X), 1);
            CHECK.due("comes then", rig.run(1).desk.told(1), 1);
        }
        Rig rig = new Rig().program(Rig.EXTEND, 050200, COUNT_X, COUNT_X).run(2);
        CHECK.due("none behind an extended one that adds", wanting(rig, 1).run(1).desk.told(1), 0);
        CHECK.due("comes then", rig.run(1).desk.told(1), 1);
    }

    private static void notBehindResume() {
        CHECK.sentence("Promise 11, interrupts", "nor behind RESUME)");
        Rig rig = new Rig().program(Rig.RESUME).poke(Rig.ZRUPT, 05000).poke(Rig.BRUPT, COUNT_X).run(1);
        CHECK.due("none behind it", wanting(rig, 1).run(1).desk.told(1), 0);
        CHECK.due("the word that was left is done", rig.desk.peek(X), 1);
        CHECK.due("comes behind that word", rig.run(1).desk.told(1), 1);
        CHECK.due("ZRUPT of it", rig.desk.peek(Rig.ZRUPT), 05001);
    }

    private static void behindOtherInstructions() {
        CHECK.sentence("Promise 11, interrupts", "Before an instruction");
        for (int word : new int[] {Rig.RELEASE, 0123, 010000 + X, 014000, COUNT_X, 056000 + X}) {
            Rig rig = wanting(new Rig().program(word).run(1), 1);
            CHECK.due("comes behind " + word, rig.run(1).desk.told(1), 1);
        }
    }

    private static void zruptGoesRound() {
        CHECK.sentence("Promise 11, interrupts", "ZRUPT becomes Z and one more (modulo 010000)");
        int[] zs = {0, 04000, 07776, 07777};
        int[] due = {1, 04001, 07777, 0};
        for (int i = 0; i < zs.length; i++) {
            GuidanceDesk desk = wanting(new Rig().poke(Rig.Z, zs[i]), 1).run(1).desk;
            CHECK.due("ZRUPT from " + zs[i], desk.peek(Rig.ZRUPT), due[i]);
        }
    }

    private static void bruptIsTheWordAtZ() {
        CHECK.sentence("Promise 11, interrupts", "BRUPT the word at Z");
        Rig rig = wanting(new Rig().programAt(07777, 077777).poke(Rig.Z, 07777), 1).run(1);
        CHECK.due("from the last address", rig.desk.peek(Rig.BRUPT), 077777);
        rig = wanting(new Rig().poke(Rig.A, 012345).poke(Rig.Z, 0), 1).run(1);
        CHECK.due("from the first address", rig.desk.peek(Rig.BRUPT), 012345);
        rig = wanting(new Rig().poke(Rig.EB, 03400).poke(03777, 054321).poke(Rig.Z, 01777), 1).run(1);
        CHECK.due("from an erasable bank", rig.desk.peek(Rig.BRUPT), 054321);
    }

    private static void bruptFromTheRegisters() {
        CHECK.sentence("Promise 11, interrupts", "ZRUPT becomes Z and one more (modulo 010000), BRUPT the word at Z,"
                + " Z becomes 04000 and 4 times its number");
        Rig rig = wanting(new Rig().poke(Rig.ZRUPT, 0123).poke(Rig.Z, Rig.ZRUPT), 1).run(1);
        CHECK.due("the word at ZRUPT, which is Z and one more by then", rig.desk.peek(Rig.BRUPT), 016);
        rig = wanting(new Rig().poke(Rig.BRUPT, 0123).poke(Rig.Z, Rig.BRUPT), 1).run(1);
        CHECK.due("the word at BRUPT itself", rig.desk.peek(Rig.BRUPT), 0123);
        rig = wanting(new Rig().poke(Rig.Z, Rig.Z), 1).run(1);
        CHECK.due("the word at Z itself, not yet 04004", rig.desk.peek(Rig.BRUPT), 5);
    }

    private static void inPlaceOfAnInstruction() {
        CHECK.sentence("Promise 11, interrupts",
                "Z becomes 04000 and 4 times its number (3 cycles, in place of an instruction).");
        Rig rig = wanting(new Rig().program(COUNT_X).programAt(04050, COUNT_X), 10);
        CHECK.due("cycles of one step", rig.desk.step(1), 3);
        CHECK.due("nothing done yet", rig.desk.peek(X), 0);
        CHECK.due("Z", rig.desk.peek(Rig.Z), 04050);
        CHECK.due("cycles of the next step", rig.desk.step(1), 2);
        CHECK.due("done then", rig.desk.peek(X), 1);
    }

    private static void goingOnUntilResume() {
        CHECK.sentence("Promises 11 and 14, interrupts", "and going on until RESUME");
        Rig rig = wanting(new Rig().program(COUNT_X), 1).programAt(04004, COUNT_X, Rig.RESUME).run(2);
        CHECK.due("before RESUME", rig.desk.told(1), 1);
        CHECK.due("behind RESUME", rig.run(1).desk.told(1), 0);
    }

    private static void possibleBehindResume() {
        CHECK.sentence("Promise 11, code 5, part 0", "and interrupts are possible again.");
        Rig rig = wanting(new Rig().program(COUNT_X), 1).programAt(04004, COUNT_X, Rig.RESUME).run(3);
        wanting(rig, 2).run(2);
        CHECK.due("another one comes", rig.desk.told(1), 1);
        CHECK.due("Z of it", rig.desk.peek(Rig.Z), 04010);
        CHECK.due("the word that was left was done before", rig.desk.peek(X), 2);
    }

    private static void resumeLeavesInhibition() {
        CHECK.sentence("Promises 11 and 14, interrupts", "if they are not inhibited, none is going on");
        Rig rig = wanting(new Rig().program(COUNT_X, COUNT_X), 1).programAt(04004, Rig.INHIBIT, Rig.RESUME).run(3);
        CHECK.due("none is going on", rig.desk.told(1), 0);
        CHECK.due("they are inhibited as before", rig.desk.told(0), 1);
        CHECK.due("none comes", wanting(rig, 1).run(2).desk.told(1), 0);
    }
}
