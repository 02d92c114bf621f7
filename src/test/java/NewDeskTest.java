/** Promise 1: a new object. */
public final class NewDeskTest {
    public static void main(String[] args) {
        Check check = new Check();
        GuidanceDesk desk = new GuidanceDesk();
        words(check);
        for (int row = 0; row <= 15; row++) {
            check.due("lamps " + row, desk.lamps(row), 0);
        }
        check.due("wide", desk.wide(), 0);
        check.due("cycles", desk.cycles(), 0);
        check.due("inhibited", desk.told(0), 0);
        check.due("going on", desk.told(1), 0);
        check.due("wanted", desk.told(2), 0);
        check.due("extended", desk.told(3), 0);
        check.due("added", desk.told(4), GuidanceDesk.NONE);
        check.due("alarms", desk.told(5), 0);
        desksAreApart(check);
        check.end();
    }

    // A new desk for each block, as a desk is good for 512 calls.
    private static void words(Check check) {
        for (int block = 0; block < 8192; block += 256) {
            GuidanceDesk desk = new GuidanceDesk();
            for (int i = block; i < block + 256; i++) {
                check.due("fix " + i, desk.fix(i / 1024, i % 1024, 0), 0);
            }
        }
        for (int block = 0; block < 2048; block += 256) {
            GuidanceDesk desk = new GuidanceDesk();
            for (int i = block; i < block + 256; i++) {
                check.due("peek " + i, desk.peek(i), i == Rig.Z ? 04000 : 0);
            }
        }
        for (int block = 0; block < 512; block += 256) {
            GuidanceDesk desk = new GuidanceDesk();
            for (int i = block; i < block + 256; i++) {
                check.due("channel " + i, desk.channel(i), 0);
            }
        }
    }

    private static void desksAreApart(Check check) {
        GuidanceDesk one = new GuidanceDesk();
        GuidanceDesk other = new GuidanceDesk();
        one.poke(0100, 5);
        one.fix(1, 1, 6);
        one.send(010, 077777);
        one.want(3);
        check.due("erasable of another desk", other.peek(0100), 0);
        check.due("fixed of another desk", other.fix(1, 1, 0), 0);
        check.due("channel of another desk", other.channel(010), 0);
        check.due("lamps of another desk", other.lamps(15), 0);
        check.due("wanted of another desk", other.told(2), 0);
    }
}
