/** Promises 7, 8, 11, 15 and 16, by the terms of keys and lamps. */
public final class LampEdgesTest {
    private static final int LAMP_CHANNEL = 010;
    private static final int[] SHOWN = {21, 3, 25, 27, 15, 30, 28, 19, 29, 31};

    private static final Check CHECK = new Check();

    public static void main(String[] args) {
        keys();
        keysAgain();
        rows();
        rowsWrittenByInstructions();
        rowsNotWritten();
        figures();
        noFigures();
        figuresBesideOneAnother();
        CHECK.end();
    }

    private static void keys() {
        CHECK.sentence("Promise 8, keys", "channel 015 becomes the key, interrupt 5 is wanted.");
        for (int key : new int[] {0, 31}) {
            GuidanceDesk desk = new GuidanceDesk();
            desk.send(015, 077777);
            desk.key(key);
            CHECK.due("channel 015 of key " + key, desk.channel(015), key);
            CHECK.due("channel 014 beside it", desk.channel(014), 0);
            CHECK.due("channel 016 beside it", desk.channel(016), 0);
            CHECK.due("wanted of key " + key, desk.told(2), 1 << 4);
            desk.step(1);
            CHECK.due("Z of the interrupt", desk.peek(Rig.Z), 04024);
            CHECK.due("the key stays", desk.channel(015), key);
        }
    }

    private static void keysAgain() {
        CHECK.sentence("Promise 8, keys", "channel 015 becomes the key");
        GuidanceDesk desk = new GuidanceDesk();
        desk.key(31);
        desk.key(0);
        CHECK.due("the last key", desk.channel(015), 0);
        CHECK.due("wanted once", desk.told(2), 1 << 4);
    }

    private static void rows() {
        CHECK.sentence("Promises 7 and 15, lamps", "when channel 010 is written, its highest four bits are a row"
                + " (0 .. 15), which has the other eleven then.");
        for (int row = 0; row <= 15; row++) {
            for (int lit : new int[] {03777, 02000, 1, 0}) {
                GuidanceDesk desk = new GuidanceDesk();
                desk.send(LAMP_CHANNEL, row * 04000 + 03777);
                desk.send(LAMP_CHANNEL, row * 04000 + lit);
                CHECK.due("the channel", desk.channel(LAMP_CHANNEL), row * 04000 + lit);
                for (int other = 0; other <= 15; other++) {
                    CHECK.due("row " + other, desk.lamps(other), other == row ? lit : 0);
                }
            }
        }
    }

    private static void rowsWrittenByInstructions() {
        CHECK.sentence("Promises 11 and 15, lamps", "when channel 010 is written");
        GuidanceDesk desk = new Rig().poke(Rig.A, 077777).doesExtended(01010);
        CHECK.due("row 15 of A", desk.lamps(15), 03777);
        Rig rig = new Rig().poke(Rig.A, 003777);
        rig.desk.send(LAMP_CHANNEL, 074001);
        CHECK.due("row 15 of A or the channel", rig.doesExtended(05010).lamps(15), 03777);
        rig = new Rig().poke(Rig.A, 074000);
        rig.desk.send(LAMP_CHANNEL, 077777);
        CHECK.due("row 15 of A and the channel, empty", rig.doesExtended(03010).lamps(15), 0);
        // The same word written again writes its row again.
        rig = new Rig().poke(Rig.A, 004005).program(Rig.EXTEND, 01010);
        rig.desk.send(LAMP_CHANNEL, 004005);
        rig.desk.restart();
        CHECK.due("channel 010 behind a restart", rig.run(2).desk.channel(LAMP_CHANNEL), 004005);
        CHECK.due("row 1", rig.desk.lamps(1), 5);
    }

    private static void rowsNotWritten() {
        CHECK.sentence("Promises 11 and 15, lamps", "when channel 010 is written");
        for (int way : new int[] {0, 2, 4, 6}) {
            Rig rig = new Rig().poke(Rig.A, 004003);
            rig.desk.send(LAMP_CHANNEL, 004005);
            GuidanceDesk desk = rig.doesExtended(way * 01000 + LAMP_CHANNEL);
            CHECK.due("row 1 by " + way, desk.lamps(1), 5);
            CHECK.due("row 0 by " + way, desk.lamps(0), 0);
        }
        GuidanceDesk desk = new GuidanceDesk();
        for (int i : new int[] {7, 011, 0110}) {
            desk.send(i, 003777);
        }
        CHECK.due("row 0 of other channels", desk.lamps(0), 0);
    }

    private static void figures() {
        CHECK.sentence("Promise 16", "21 shows 0, 3 1, 25 2, 27 3, 15 4, 30 5, 28 6, 19 7, 29 8, 31 9");
        for (int row : new int[] {0, 15}) {
            for (int figure = 0; figure <= 9; figure++) {
                GuidanceDesk desk = new GuidanceDesk();
                desk.send(LAMP_CHANNEL, row * 04000 + SHOWN[figure]);
                CHECK.due("right of row " + row, desk.figure(row, true), figure);
                CHECK.due("left of row " + row, desk.figure(row, false), GuidanceDesk.NONE);
                desk.send(LAMP_CHANNEL, row * 04000 + SHOWN[figure] * 32);
                CHECK.due("right of row " + row, desk.figure(row, true), GuidanceDesk.NONE);
                CHECK.due("left of row " + row, desk.figure(row, false), figure);
            }
        }
    }

    private static void noFigures() {
        CHECK.sentence("Promise 16", "else NONE.");
        GuidanceDesk desk = new GuidanceDesk();
        CHECK.due("right of an empty row", desk.figure(0, true), -1);
        CHECK.due("left of an empty row", desk.figure(0, false), -1);
        for (int lit = 0; lit <= 31; lit++) {
            boolean shows = false;
            for (int shown : SHOWN) {
                shows = shows || shown == lit;
            }
            desk.send(LAMP_CHANNEL, lit);
            CHECK.due("right of " + lit, desk.figure(0, true) == GuidanceDesk.NONE, !shows);
            desk.send(LAMP_CHANNEL, lit * 32);
            CHECK.due("left of " + lit, desk.figure(0, false) == GuidanceDesk.NONE, !shows);
        }
    }

    private static void figuresBesideOneAnother() {
        CHECK.sentence("Promise 16",
                "The figure that five lamps of a row show, the lower ones (right) or those above them");
        GuidanceDesk desk = new GuidanceDesk();
        desk.send(LAMP_CHANNEL, 31 * 32 + 21);
        CHECK.due("right", desk.figure(0, true), 0);
        CHECK.due("left", desk.figure(0, false), 9);
        // The eleventh lamp belongs to neither.
        desk.send(LAMP_CHANNEL, 02000 + 3 * 32 + 31);
        CHECK.due("right with the highest lamp", desk.figure(0, true), 9);
        CHECK.due("left with the highest lamp", desk.figure(0, false), 1);
        desk.send(LAMP_CHANNEL, 02000);
        CHECK.due("right of the highest lamp alone", desk.figure(0, true), GuidanceDesk.NONE);
        CHECK.due("left of the highest lamp alone", desk.figure(0, false), GuidanceDesk.NONE);
    }
}
