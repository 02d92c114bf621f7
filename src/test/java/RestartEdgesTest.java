/** Promises 1, 12 and 14, by the terms of a restart: a new object, a restart, and an alarm. */
public final class RestartEdgesTest {
    private static final int X = 0100;
    private static final int COUNT_X = 024000 + X;

    private static final Check CHECK = new Check();

    public static void main(String[] args) {
        newWords();
        newState();
        newDeskIsNotInhibited();
        zBecomes04000();
        inhibited();
        noneGoingOnOrWanted();
        nothingExtended();
        nothingAdded();
        nothingLeft();
        channels();
        lampsStay();
        othersStay();
        notCounted();
        alarmIsARestart();
        CHECK.end();
    }

    private static void newWords() {
        CHECK.sentence("Promise 1", "All words, channels and rows are 0; Z is 04000");
        GuidanceDesk desk = new GuidanceDesk();
        for (int i : new int[] {0, 1, 2, 3, 4, 6, 7, 020, 023, 024, 031, 0377, 0400, 03777}) {
            CHECK.due("word " + i, desk.peek(i), 0);
        }
        for (int bank = 0; bank <= 7; bank++) {
            CHECK.due("the first word of bank " + bank, desk.fix(bank, 0, 0), 0);
            CHECK.due("the last word of bank " + bank, desk.fix(bank, 1023, 0), 0);
        }
        for (int i : new int[] {0, 1, 2, 5, 010, 013, 014, 015, 0777}) {
            CHECK.due("channel " + i, desk.channel(i), 0);
        }
        for (int row = 0; row <= 15; row++) {
            CHECK.due("row " + row, desk.lamps(row), 0);
        }
        CHECK.due("Z", desk.peek(Rig.Z), 04000);
        CHECK.due("A", desk.wide(), 0);
    }

    private static void newState() {
        CHECK.sentence("Promise 1",
                "interrupts are not inhibited, none is going on or wanted; no cycles, no restarts.");
        GuidanceDesk desk = new GuidanceDesk();
        CHECK.due("inhibited", desk.told(0), 0);
        CHECK.due("going on", desk.told(1), 0);
        CHECK.due("wanted", desk.told(2), 0);
        CHECK.due("extended", desk.told(3), 0);
        CHECK.due("added", desk.told(4), GuidanceDesk.NONE);
        CHECK.due("alarms", desk.told(5), 0);
        CHECK.due("cycles", desk.cycles(), 0);
        CHECK.due("NONE", GuidanceDesk.NONE, -1);
    }

    private static void newDeskIsNotInhibited() {
        CHECK.sentence("Promise 1", "Z is 04000, interrupts are not inhibited");
        CHECK.due("the word at 04000 is done first", new Rig().does(COUNT_X).peek(X), 1);
        GuidanceDesk desk = new GuidanceDesk();
        desk.want(1);
        CHECK.due("cycles of an interrupt at once", desk.step(1), 3);
    }

    private static void zBecomes04000() {
        CHECK.sentence("Promise 12, a restart", "Z becomes 04000");
        for (int z : new int[] {0, 03777, 04000, 04001, 07777}) {
            GuidanceDesk desk = new Rig().poke(Rig.Z, z).desk;
            desk.restart();
            CHECK.due("Z from " + z, desk.peek(Rig.Z), 04000);
        }
    }

    private static void inhibited() {
        CHECK.sentence("Promises 12 and 14, a restart", "interrupts are inhibited");
        Rig rig = new Rig().program(COUNT_X);
        rig.desk.restart();
        rig.desk.want(1);
        CHECK.due("told", rig.desk.told(0), 1);
        CHECK.due("none comes", rig.run(1).desk.peek(X), 1);
        rig.desk.restart();
        CHECK.due("told behind another restart", rig.desk.told(0), 1);
    }

    private static void noneGoingOnOrWanted() {
        CHECK.sentence("Promises 12 and 14, a restart", "none is going on or wanted");
        GuidanceDesk desk = new GuidanceDesk();
        desk.want(1);
        desk.step(1);
        for (int n = 1; n <= 10; n++) {
            desk.want(n);
        }
        desk.restart();
        CHECK.due("going on", desk.told(1), 0);
        CHECK.due("wanted", desk.told(2), 0);
        desk.want(10);
        CHECK.due("wanted behind it", desk.told(2), 01000);
        Rig rig = new Rig().program(Rig.RELEASE).programAt(04004, COUNT_X);
        rig.desk.restart();
        rig.desk.want(1);
        CHECK.due("released, one comes", rig.run(2).desk.told(1), 1);
    }

    private static void nothingExtended() {
        CHECK.sentence("Promises 12 and 14, a restart", "nothing is extended, added, or left by RESUME");
        Rig rig = new Rig().program(Rig.EXTEND).run(1);
        rig.desk.restart();
        CHECK.due("told", rig.desk.told(3), 0);
        CHECK.due("a sum, not extended", rig.wide(5).poke(X, 3).does(060000 + X).wide(), 8);
    }

    private static void nothingAdded() {
        CHECK.sentence("Promises 12 and 14, a restart", "nothing is extended, added, or left by RESUME");
        for (int added : new int[] {0, 1, 077777}) {
            Rig rig = new Rig().poke(0200, added).program(Rig.EXTEND, 050200).run(2);
            rig.desk.restart();
            CHECK.due("told 4 behind " + added, rig.desk.told(4), GuidanceDesk.NONE);
            CHECK.due("told 3 behind " + added, rig.desk.told(3), 0);
            CHECK.due("the word as it is", rig.does(COUNT_X).peek(X), 1);
        }
    }

    private static void nothingLeft() {
        CHECK.sentence("Promise 12, a restart", "nothing is extended, added, or left by RESUME");
        Rig rig = new Rig().poke(Rig.ZRUPT, 05000).poke(Rig.BRUPT, COUNT_X).program(Rig.RESUME).run(1);
        rig.desk.restart();
        rig.does(COUNT_X + 1);
        CHECK.due("what was left", rig.desk.peek(X), 0);
        CHECK.due("what Z tells", rig.desk.peek(X + 1), 1);
        CHECK.due("Z", rig.desk.peek(Rig.Z), 04001);
    }

    private static void channels() {
        CHECK.sentence("Promise 12, a restart", "channels 5 to 014 become 0");
        for (int i : new int[] {1, 2, 3, 4, 5, 6, 7, 010, 011, 012, 013, 014, 015, 016, 0777}) {
            GuidanceDesk desk = new GuidanceDesk();
            desk.send(i, 077777);
            desk.restart();
            CHECK.due("channel " + i, desk.channel(i), i >= 5 && i <= 014 ? 0 : 077777);
        }
    }

    private static void lampsStay() {
        CHECK.sentence("Promises 12 and 15, a restart", "(lamps stay)");
        GuidanceDesk desk = new GuidanceDesk();
        for (int row = 0; row <= 15; row++) {
            desk.send(010, row * 04000 + 03777 - row);
        }
        desk.restart();
        CHECK.due("channel 010", desk.channel(010), 0);
        for (int row = 0; row <= 15; row++) {
            CHECK.due("row " + row, desk.lamps(row), 03777 - row);
        }
        CHECK.due("a figure", desk.figure(0, true), 9);
    }

    private static void othersStay() {
        CHECK.sentence("Promise 12", "A restart");
        Rig rig = new Rig().program(COUNT_X).run(1).wide(0137776);
        for (int i = 1; i <= 4; i++) {
            rig.poke(i, 052525);
        }
        rig.poke(Rig.ZRUPT, 1).poke(Rig.BRUPT, 2).poke(031, 3).poke(03777, 4);
        long cycles = rig.desk.cycles();
        rig.desk.restart();
        CHECK.due("A with its overflow", rig.desk.wide(), 0137776);
        CHECK.due("L", rig.desk.peek(Rig.L), 052525);
        CHECK.due("Q", rig.desk.peek(Rig.Q), 052525);
        CHECK.due("EB", rig.desk.peek(Rig.EB), 052525 & 03400);
        CHECK.due("FB", rig.desk.peek(Rig.FB), 052525 & 076000);
        CHECK.due("ZRUPT", rig.desk.peek(Rig.ZRUPT), 1);
        CHECK.due("BRUPT", rig.desk.peek(Rig.BRUPT), 2);
        CHECK.due("TIME6", rig.desk.peek(031), 3);
        CHECK.due("the last erasable word", rig.desk.peek(03777), 4);
        CHECK.due("the fixed word", rig.desk.fix(2, 0, 0), COUNT_X);
        CHECK.due("cycles", rig.desk.cycles(), cycles);
    }

    private static void notCounted() {
        CHECK.sentence("Promises 12 and 14", "A restart; it is not counted.");
        GuidanceDesk desk = new GuidanceDesk();
        desk.restart();
        desk.restart();
        CHECK.due("alarms", desk.told(5), 0);
        CHECK.due("cycles", desk.cycles(), 0);
        desk = new Rig().doesExtended(07000);
        desk.restart();
        CHECK.due("an alarm before stays counted", desk.told(5), 1);
    }

    private static void alarmIsARestart() {
        CHECK.sentence("Promises 11 and 14", "An alarm is a RESTART, and is counted.");
        Rig rig = new Rig().programAt(04050, Rig.EXTEND, 07777);
        for (int i = 3; i <= 016; i++) {
            rig.desk.send(i, 0123);
        }
        rig.desk.want(10);
        rig.run(1).desk.want(7);
        CHECK.due("cycles", rig.desk.step(2), 3);
        CHECK.due("Z", rig.desk.peek(Rig.Z), 04000);
        CHECK.due("inhibited", rig.desk.told(0), 1);
        CHECK.due("going on", rig.desk.told(1), 0);
        CHECK.due("wanted", rig.desk.told(2), 0);
        CHECK.due("extended", rig.desk.told(3), 0);
        CHECK.due("alarms", rig.desk.told(5), 1);
        CHECK.due("channel 4", rig.desk.channel(4), 0123);
        CHECK.due("channel 5", rig.desk.channel(5), 0);
        CHECK.due("channel 014", rig.desk.channel(014), 0);
        CHECK.due("channel 015", rig.desk.channel(015), 0123);
        CHECK.due("the row that channel 010 wrote", rig.desk.lamps(0), 0123);
    }
}
