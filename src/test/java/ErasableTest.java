/** Promises 3, 4 and 5: poke, peek and wide. */
public final class ErasableTest {
    private static final int[] WORDS = {
        0, 1, 2, 0177, 0200, 0377, 0400, 03400, 07777, 010000, 025252, 037777, 040000, 040001,
        052525, 076000, 077400, 077776, 077777};

    public static void main(String[] args) {
        Check check = new Check();
        plainWords(check);
        for (int word : WORDS) {
            registers(check, word);
            editors(check, word);
        }
        examples(check);
        overflows(check);
        refusals(check);
        check.end();
    }

    // A hundred words in turn, as a desk is good for 512 calls.
    private static void plainWords(Check check) {
        for (int block = 0; block < 2048; block += 100) {
            GuidanceDesk desk = new GuidanceDesk();
            int end = Math.min(block + 100, 2048);
            for (int i = block; i < end; i++) {
                check.due("poke " + i, isPlain(i) ? desk.poke(i, 32767 - i) : 0, 0);
            }
            for (int i = block; i < end; i++) {
                int due = isPlain(i) ? 32767 - i : 0;
                check.due("peek " + i, desk.peek(i), i == Rig.Z ? 04000 : due);
                check.due("poke again " + i, isPlain(i) ? desk.poke(i, 0) : due, due);
            }
        }
    }

    private static boolean isPlain(int i) {
        return i == 1 || i == 2 || i >= 010 && i < 020 || i > 023;
    }

    private static void registers(Check check, int word) {
        GuidanceDesk desk = new GuidanceDesk();
        desk.poke(Rig.A, word);
        check.due("A " + word, desk.peek(Rig.A), word);
        check.due("wide " + word, desk.wide(), word < 040000 ? word : word + 0100000);
        check.due("A was " + word, desk.poke(Rig.A, 0), word);
        desk.poke(Rig.EB, word);
        check.due("EB " + word, desk.peek(Rig.EB), word & 03400);
        check.due("BB of EB " + word, desk.peek(Rig.BB), (word & 03400) / 0400);
        desk.poke(Rig.EB, 0);
        desk.poke(Rig.FB, word);
        check.due("FB " + word, desk.peek(Rig.FB), word & 076000);
        check.due("BB of FB " + word, desk.peek(Rig.BB), word & 076000);
        desk.poke(Rig.EB, 02400);
        check.due("BB was " + word, desk.poke(Rig.BB, word), word & 076000 | 5);
        check.due("BB " + word, desk.peek(Rig.BB), word & 076007);
        check.due("FB of BB " + word, desk.peek(Rig.FB), word & 076000);
        check.due("EB of BB " + word, desk.peek(Rig.EB), (word & 7) * 0400);
        check.due("Z was", desk.poke(Rig.Z, word), 04000);
        check.due("Z " + word, desk.peek(Rig.Z), word & 07777);
        check.due("7 was", desk.poke(7, word), 0);
        check.due("7", desk.peek(7), 0);
    }

    private static void editors(Check check, int word) {
        GuidanceDesk desk = new GuidanceDesk();
        for (int i = 020; i <= 023; i++) {
            desk.poke(i, word);
        }
        int top = word / 040000;
        int[] due = {
            word / 2 + word % 2 * 040000,
            word / 2 + top * 040000,
            word % 040000 * 2 + top,
            word / 0200 % 0200};
        for (int again = 0; again < 2; again++) {
            for (int i = 0; i < 4; i++) {
                check.due("editor " + i + " of " + word, desk.peek(020 + i), due[i]);
            }
        }
        for (int i = 0; i < 4; i++) {
            check.due("editor was " + i, desk.poke(020 + i, 0), due[i]);
        }
    }

    private static void examples(Check check) {
        Rig rig = new Rig();
        rig.poke(020, 012345).poke(021, 052341).poke(022, 052341).poke(023, 065432);
        check.due("round right", rig.desk.peek(020), 045162);
        check.due("shift right", rig.desk.peek(021), 065160);
        check.due("round left", rig.desk.peek(022), 024703);
        check.due("right by seven", rig.desk.peek(023), 0126);
    }

    private static void overflows(Check check) {
        int[] wides = {040000, 040001, 077777, 0100000, 0100001, 0137777};
        int[] cuts = {0, 1, 037777, 040000, 040001, 077777};
        for (int i = 0; i < wides.length; i++) {
            GuidanceDesk desk = new Rig().wide(wides[i]).desk;
            check.due("wide with overflow", desk.wide(), wides[i]);
            check.due("A cut", desk.peek(Rig.A), cuts[i]);
            check.due("peek leaves A", desk.wide(), wides[i]);
            check.due("A was", desk.poke(Rig.A, 3), cuts[i]);
            check.due("poke takes the overflow away", desk.wide(), 3);
        }
    }

    private static void refusals(Check check) {
        GuidanceDesk desk = new GuidanceDesk();
        desk.poke(0, 9);
        desk.poke(2047, 9);
        check.refused("poke -1", () -> desk.poke(-1, 0));
        check.refused("poke 2048", () -> desk.poke(2048, 0));
        check.refused("poke word -1", () -> desk.poke(0, -1));
        check.refused("poke word 32768", () -> desk.poke(0, 32768));
        check.refused("poke far", () -> desk.poke(Integer.MAX_VALUE, 0));
        check.refused("peek -1", () -> desk.peek(-1));
        check.refused("peek 2048", () -> desk.peek(2048));
        check.refused("peek far", () -> desk.peek(Integer.MIN_VALUE));
        check.due("first word kept", desk.peek(0), 9);
        check.due("last word kept", desk.peek(2047), 9);
    }
}
