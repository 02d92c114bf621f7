/**
 * Promises 3, 5, 9 and 11, by the terms they lean on: words, wide numbers, overflows, cuts and sums
 * at their ends.
 */
public final class WordEdgesTest {
    private static final int X = 0100;
    private static final int ADD = 060000;
    private static final int STORE = 054000;
    private static final int COMPARE = 010000;
    private static final int TURN = 040000;
    private static final int TIMES = 070000;

    private static final Check CHECK = new Check();

    public static void main(String[] args) {
        numbers();
        zeros();
        turned();
        minusOne();
        wide();
        madeWide();
        overflows();
        noOverflows();
        cut();
        onlyTheAccumulatorIsWide();
        sums();
        sumsThatWrap();
        CHECK.end();
    }

    private static void numbers() {
        CHECK.sentence("Promise 11, words", "A WORD has 15 bits; up to 037777 it is that number, else it is"
                + " 077777 less it, negative");
        number(0, 0, 0);
        number(1, 0, 1);
        number(037777, 0, 037777);
        number(040000, 077777, 040000);
        number(077776, 077777, 077776);
    }

    // The product with 1 shows which number a word is.
    private static void number(int word, int dueA, int dueL) {
        GuidanceDesk desk = new Rig().poke(Rig.A, 1).poke(X, word).doesExtended(TIMES + X);
        CHECK.due("A of 1 times " + word, desk.peek(Rig.A), dueA);
        CHECK.due("L of 1 times " + word, desk.peek(Rig.L), dueL);
    }

    private static void zeros() {
        CHECK.sentence("Promise 11, words", "0 is +0, 077777 is -0.");
        CHECK.due("Z behind comparing 0", new Rig().poke(X, 0).does(COMPARE + X).peek(Rig.Z), 04002);
        CHECK.due("Z behind comparing 077777", new Rig().poke(X, 077777).does(COMPARE + X).peek(Rig.Z), 04004);
        CHECK.due("Z behind comparing 1", new Rig().poke(X, 1).does(COMPARE + X).peek(Rig.Z), 04001);
        CHECK.due("Z behind comparing 077776", new Rig().poke(X, 077776).does(COMPARE + X).peek(Rig.Z), 04003);
    }

    private static void turned() {
        CHECK.sentence("Promise 11, words", "Turned, all its bits are the other ones.");
        int[] words = {0, 1, 025252, 037777, 040000, 052525, 077776, 077777};
        int[] due = {077777, 077776, 052525, 040000, 037777, 025252, 1, 0};
        for (int i = 0; i < words.length; i++) {
            GuidanceDesk desk = new Rig().poke(X, words[i]).does(TURN + X);
            CHECK.due(words[i] + " turned", desk.peek(Rig.A), due[i]);
        }
    }

    private static void minusOne() {
        CHECK.sentence("Promises 9 and 11, words", "-1 is 077776.");
        GuidanceDesk desk = new GuidanceDesk();
        desk.pulse(20, false);
        CHECK.due("the sum of +0 and -1", desk.peek(20), 077776);
        CHECK.due("the sum of -0 and -1", new Rig().poke(X, 077777).doesExtended(024000 + X).peek(X), 077776);
        CHECK.due("A behind a negative overflow", new Rig().wide(0100000).does(STORE + X).peek(Rig.A), 077776);
    }

    private static void wide() {
        CHECK.sentence("Promise 5", "A, as a wide number.");
        int[] words = {0, 037777, 040000, 077777};
        int[] due = {0, 037777, 0140000, 0177777};
        for (int i = 0; i < words.length; i++) {
            CHECK.due("A of " + words[i], new Rig().poke(Rig.A, words[i]).desk.wide(), due[i]);
        }
        GuidanceDesk desk = new Rig().poke(Rig.A, 037777).poke(X, 1).does(ADD + X);
        CHECK.due("the least positive overflow", desk.wide(), 040000);
        desk = new Rig().poke(Rig.A, 037777).poke(X, 037777).poke(X + 1, 1).program(ADD + X, ADD + X + 1).run(2).desk;
        CHECK.due("the greatest positive overflow", desk.wide(), 077777);
        desk = new Rig().poke(Rig.A, 040000).poke(X, 077776).does(ADD + X);
        CHECK.due("the negative overflow nearest to 0", desk.wide(), 0137777);
        desk = new Rig().poke(Rig.A, 040000).poke(X, 040000).poke(X + 1, 077776).program(ADD + X, ADD + X + 1)
                .run(2).desk;
        CHECK.due("the negative overflow farthest from 0", desk.wide(), 0100000);
        CHECK.due("A asked again", desk.wide(), 0100000);
    }

    private static void madeWide() {
        CHECK.sentence("Promise 5, wide numbers",
                "those of words have both alike (a word's highest bit comes twice)");
        int[] words = {0, 1, 037777, 040000, 077776, 077777};
        int[] due = {0, 1, 037777, 0140000, 0177776, 0177777};
        for (int i = 0; i < words.length; i++) {
            CHECK.due("A poked " + words[i], new Rig().poke(Rig.A, words[i]).desk.wide(), due[i]);
            CHECK.due("A taken " + words[i], new Rig().poke(X, words[i]).does(030000 + X).wide(), due[i]);
        }
    }

    private static void overflows() {
        CHECK.sentence("Promise 11, wide numbers",
                "if the two differ, that is an OVERFLOW, positive when the higher one is 0");
        int[] wides = {040000, 040001, 077776, 077777, 0100000, 0100001, 0137776, 0137777};
        for (int x : wides) {
            GuidanceDesk desk = new Rig().wide(x).does(STORE + X);
            CHECK.due("Z behind storing " + x, desk.peek(Rig.Z), 04002);
            CHECK.due("A behind storing " + x, desk.wide(), x < 0100000 ? 1 : 0177776);
        }
    }

    private static void noOverflows() {
        CHECK.sentence("Promise 11, wide numbers", "if the two differ, that is an OVERFLOW");
        for (int x : new int[] {0, 1, 037777, 0140000, 0140001, 0177776, 0177777}) {
            GuidanceDesk desk = new Rig().wide(x).does(STORE + X);
            CHECK.due("Z behind storing " + x, desk.peek(Rig.Z), 04001);
            CHECK.due("A behind storing " + x, desk.wide(), x);
        }
    }

    private static void cut() {
        CHECK.sentence("Promise 4, wide numbers",
                "CUT to a word, a wide number has the higher sign and its lowest 14 bits.");
        int[] wides = {037777, 040000, 077777, 0100000, 0137777, 0140000, 0177777};
        int[] due = {037777, 0, 037777, 040000, 077777, 040000, 077777};
        for (int i = 0; i < wides.length; i++) {
            Rig rig = new Rig().wide(wides[i]);
            CHECK.due(wides[i] + " cut", rig.desk.peek(Rig.A), due[i]);
            CHECK.due(wides[i] + " cut, and stored", rig.does(STORE + X).peek(X), due[i]);
        }
    }

    private static void onlyTheAccumulatorIsWide() {
        CHECK.sentence("Promise 11, memory",
                "0 A, the only wide one (read as a word it is cut; what is written is made wide).");
        GuidanceDesk desk = new Rig().wide(040001).poke(Rig.L, 040000).does(022000);
        CHECK.due("L, that had its place with A changed", desk.peek(Rig.L), 1);
        CHECK.due("A, that had its place with L changed", desk.wide(), 0140000);
        desk = new Rig().wide(0137776).poke(Rig.Q, 037777).doesExtended(022000);
        CHECK.due("Q, that had its place with A changed", desk.peek(Rig.Q), 077776);
        CHECK.due("A, that had its place with Q changed", desk.wide(), 037777);
    }

    private static void sums() {
        CHECK.sentence("Promise 11, sums", "of wide numbers as they are");
        sum(0, 0, 0);
        sum(037777, 1, 040000);
        sum(037777, 037777, 077776);
        sum(077777, 1, 0100000);
        sum(0, 077777, 0177777);
        sum(1, 077776, 0177777);
        sum(037777, 040000, 0177777);
        sum(0100000, 037777, 0137777);
    }

    private static void sumsThatWrap() {
        CHECK.sentence("Promise 11, sums", "if that is 0200000 or more, that is taken away and 1 added.");
        sum(0177777, 1, 1);
        sum(2, 077776, 1);
        sum(037777, 077777, 037777);
        sum(0177777, 077777, 0177777);
        sum(0177776, 077776, 0177775);
        sum(0140000, 040000, 0100001);
        sum(0140000, 077776, 0137777);
        sum(0100000, 040000, 040001);
        sum(0100000, 077777, 0100000);
    }

    private static void sum(int a, int word, int due) {
        CHECK.due("the sum of " + a + " and " + word, new Rig().wide(a).poke(X, word).does(ADD + X).wide(), due);
    }
}
