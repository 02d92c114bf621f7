/** Promise 2: fix. */
public final class FixTest {
    public static void main(String[] args) {
        Check check = new Check();
        answersWhatWas(check);
        everyWordIsItsOwn(check);
        refusals(check);
        check.end();
    }

    private static void answersWhatWas(Check check) {
        GuidanceDesk desk = new GuidanceDesk();
        check.due("first", desk.fix(0, 0, 077777), 0);
        check.due("second", desk.fix(0, 0, 1), 077777);
        check.due("third", desk.fix(0, 0, 2), 1);
        check.due("last bank and place", desk.fix(7, 1023, 32767), 0);
        check.due("last bank and place again", desk.fix(7, 1023, 0), 32767);
    }

    // Thirty places of each bank in turn, as a desk is good for 512 calls.
    private static void everyWordIsItsOwn(Check check) {
        for (int block = 0; block < 1024; block += 30) {
            GuidanceDesk desk = new GuidanceDesk();
            int end = Math.min(block + 30, 1024);
            for (int i = 0; i < 8 * (end - block); i++) {
                desk.fix(i % 8, block + i / 8, i + 1);
            }
            for (int i = 0; i < 8 * (end - block); i++) {
                check.due("word " + i, desk.fix(i % 8, block + i / 8, 0), i + 1);
            }
        }
    }

    private static void refusals(Check check) {
        GuidanceDesk desk = new GuidanceDesk();
        for (int bank = 0; bank <= 7; bank++) {
            desk.fix(bank, 0, 7);
            desk.fix(bank, 1023, 7);
        }
        check.refused("bank -1", () -> desk.fix(-1, 0, 0));
        check.refused("bank 8", () -> desk.fix(8, 0, 0));
        check.refused("place -1", () -> desk.fix(0, -1, 0));
        check.refused("place -1 in a later bank", () -> desk.fix(3, -1, 0));
        check.refused("place 1024", () -> desk.fix(0, 1024, 0));
        check.refused("word -1", () -> desk.fix(0, 0, -1));
        check.refused("word 32768", () -> desk.fix(0, 0, 32768));
        check.refused("least ints", () -> desk.fix(Integer.MIN_VALUE, 0, 0));
        check.refused("greatest ints", () -> desk.fix(0, Integer.MAX_VALUE, 0));
        for (int bank = 0; bank <= 7; bank++) {
            check.due("first word kept " + bank, desk.fix(bank, 0, 7), 7);
            check.due("last word kept " + bank, desk.fix(bank, 1023, 7), 7);
        }
    }
}
