/** Promises 12 and 14: restart, and what is told. */
public final class RestartTest {
    private static final int X = 0100;

    private static final Check CHECK = new Check();

    public static void main(String[] args) {
        stateOfARestart();
        whatStays();
        nothingExtended();
        nothingAdded();
        nothingLeft();
        runsOn();
        CHECK.end();
    }

    private static void stateOfARestart() {
        GuidanceDesk desk = new GuidanceDesk();
        for (int i = 1; i <= 020; i++) {
            desk.send(i, 0100 + i);
        }
        desk.want(1);
        desk.step(1);
        desk.want(2);
        desk.want(10);
        CHECK.due("going on before", desk.told(1), 1);
        desk.restart();
        CHECK.due("Z", desk.peek(Rig.Z), 04000);
        CHECK.due("inhibited", desk.told(0), 1);
        CHECK.due("none going on", desk.told(1), 0);
        CHECK.due("none wanted", desk.told(2), 0);
        CHECK.due("not counted", desk.told(5), 0);
        for (int i = 1; i <= 020; i++) {
            CHECK.due("channel " + i, desk.channel(i), i >= 5 && i <= 014 ? 0 : 0100 + i);
        }
    }

    private static void whatStays() {
        Rig rig = new Rig().program(014000).run(0200).wide(040001).poke(Rig.L, 2).poke(Rig.Q, 3);
        rig.poke(Rig.BB, 012005).poke(Rig.ZRUPT, 4).poke(Rig.BRUPT, 5).poke(X, 6);
        for (int row = 0; row <= 15; row++) {
            rig.desk.send(010, row << 11 | row + 1);
        }
        long cycles = rig.desk.cycles();
        rig.desk.restart();
        CHECK.due("A", rig.desk.wide(), 040001);
        CHECK.due("L", rig.desk.peek(Rig.L), 2);
        CHECK.due("Q", rig.desk.peek(Rig.Q), 3);
        CHECK.due("BB", rig.desk.peek(Rig.BB), 012005);
        CHECK.due("ZRUPT", rig.desk.peek(Rig.ZRUPT), 4);
        CHECK.due("BRUPT", rig.desk.peek(Rig.BRUPT), 5);
        CHECK.due("a plain word", rig.desk.peek(X), 6);
        CHECK.due("TIME1", rig.desk.peek(025), 1);
        CHECK.due("a fixed word", rig.desk.fix(2, 0, 0), 014000);
        CHECK.due("cycles", rig.desk.cycles(), cycles);
        CHECK.due("channel 010", rig.desk.channel(010), 0);
        for (int row = 0; row <= 15; row++) {
            CHECK.due("lamps " + row, rig.desk.lamps(row), row + 1);
        }
    }

    private static void nothingExtended() {
        Rig rig = new Rig().program(Rig.EXTEND).run(1);
        CHECK.due("extended before", rig.desk.told(3), 1);
        rig.desk.restart();
        CHECK.due("not extended", rig.desk.told(3), 0);
        CHECK.due("a plain sum", rig.program(060000 + X).poke(X, 5).run(1).desk.wide(), 5);
    }

    private static void nothingAdded() {
        Rig rig = new Rig().program(050000 + X).poke(X, 5).run(1);
        CHECK.due("added before", rig.desk.told(4), 5);
        rig.desk.restart();
        CHECK.due("nothing added", rig.desk.told(4), GuidanceDesk.NONE);
        CHECK.due("as it stands", rig.program(030000 + X).run(1).desk.wide(), 5);
    }

    private static void nothingLeft() {
        Rig rig = new Rig().program(Rig.RESUME).poke(Rig.BRUPT, 024000 + X).poke(Rig.ZRUPT, 05000).run(1);
        rig.desk.restart();
        rig.program(024000 + X + 1).run(1);
        CHECK.due("what was left is not done", rig.desk.peek(X), 0);
        CHECK.due("what Z tells is", rig.desk.peek(X + 1), 1);
        CHECK.due("Z", rig.desk.peek(Rig.Z), 04001);
    }

    private static void runsOn() {
        Rig rig = new Rig().program(024000 + X, Rig.RELEASE, 024000 + X).poke(Rig.Z, 0123);
        rig.desk.restart();
        rig.desk.want(3);
        CHECK.due("inhibited first", rig.run(2).desk.peek(X), 1);
        CHECK.due("released", rig.desk.told(0), 0);
        CHECK.due("then it comes", rig.run(1).desk.peek(Rig.Z), 04014);
    }
}
