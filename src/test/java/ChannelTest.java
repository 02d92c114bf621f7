/** Promises 6, 7, 8, 15 and 16: channels, keys and lamps. */
public final class ChannelTest {
    private static final int[] SHOWN = {21, 3, 25, 27, 15, 30, 28, 19, 29, 31};

    public static void main(String[] args) {
        Check check = new Check();
        words(check);
        eachAlone(check);
        keys(check);
        lamps(check);
        figures(check);
        refusals(check);
        check.end();
    }

    // 128 channels in turn, as a desk is good for 512 calls.
    private static void words(Check check) {
        for (int block = 0; block < 512; block += 128) {
            GuidanceDesk desk = new GuidanceDesk();
            for (int i = block; i < block + 128; i++) {
                desk.send(i, 32767 - i);
            }
            for (int i = block; i < block + 128; i++) {
                check.due("channel " + i, desk.channel(i), i == 0 ? 0 : 32767 - i);
            }
            check.due("wanted", desk.told(2), 0);
        }
        GuidanceDesk desk = new GuidanceDesk();
        for (int i = 0; i < 8; i++) {
            desk.send(i, 0400 + i);
        }
        check.due("A", desk.wide(), 0);
        check.due("L", desk.peek(Rig.L), 0401);
        check.due("Q", desk.peek(Rig.Q), 0402);
        check.due("EB", desk.peek(Rig.EB), 0);
        desk.send(7, 0);
        check.due("0 sent", desk.channel(7), 0);
        desk.poke(Rig.L, 12);
        desk.poke(Rig.Q, 34);
        check.due("channel 1 of L", desk.channel(1), 12);
        check.due("channel 2 of Q", desk.channel(2), 34);
    }

    private static void eachAlone(Check check) {
        for (int i = 0; i <= 011; i++) {
            GuidanceDesk desk = new GuidanceDesk();
            desk.send(i, 1);
            for (int other = 0; other <= 011; other++) {
                int due = i == other && i != 0 ? 1 : 0;
                check.due("channel " + other + " when " + i + " is sent", desk.channel(other), due);
            }
            check.due("L when " + i + " is sent", desk.peek(Rig.L), i == 1 ? 1 : 0);
            check.due("Q when " + i + " is sent", desk.peek(Rig.Q), i == 2 ? 1 : 0);
            check.due("lamps when " + i + " is sent", desk.lamps(0), i == 010 ? 1 : 0);
        }
    }

    private static void keys(Check check) {
        GuidanceDesk desk = new GuidanceDesk();
        for (int key = 0; key <= 31; key++) {
            desk.restart();
            desk.key(key);
            check.due("channel of the key", desk.channel(015), key);
            check.due("wanted by the key", desk.told(2), 1 << 4);
        }
        desk.want(2);
        desk.key(1);
        check.due("wanted besides", desk.told(2), 1 << 4 | 1 << 1);
    }

    private static void lamps(Check check) {
        GuidanceDesk desk = new GuidanceDesk();
        for (int row = 0; row <= 15; row++) {
            desk.send(010, row << 11 | 2047 - row);
            check.due("channel 010", desk.channel(010), row << 11 | 2047 - row);
        }
        for (int row = 0; row <= 15; row++) {
            check.due("row " + row, desk.lamps(row), 2047 - row);
        }
        desk.send(011, 5 << 11 | 1);
        check.due("another channel", desk.lamps(5), 2042);
        desk.send(010, 5 << 11);
        check.due("dark again", desk.lamps(5), 0);
        check.due("the row below", desk.lamps(4), 2043);
    }

    private static void figures(Check check) {
        GuidanceDesk desk = new GuidanceDesk();
        for (int lit = 0; lit < 32; lit++) {
            int due = GuidanceDesk.NONE;
            for (int i = 0; i < SHOWN.length; i++) {
                due = SHOWN[i] == lit ? i : due;
            }
            desk.send(010, 3 << 11 | lit);
            check.due("right " + lit, desk.figure(3, true), due);
            check.due("left dark", desk.figure(3, false), GuidanceDesk.NONE);
            desk.send(010, 3 << 11 | 1 << 10 | lit << 5 | 21);
            check.due("left " + lit, desk.figure(3, false), due);
            check.due("right beside it", desk.figure(3, true), 0);
        }
        check.due("another row", desk.figure(15, true), GuidanceDesk.NONE);
        desk.send(010, 15 << 11 | 31 << 5 | 3);
        check.due("last row left", desk.figure(15, false), 9);
        check.due("last row right", desk.figure(15, true), 1);
        desk.send(010, 28);
        check.due("first row", desk.figure(0, true), 6);
    }

    private static void refusals(Check check) {
        GuidanceDesk desk = new GuidanceDesk();
        desk.send(511, 5);
        check.refused("channel -1", () -> desk.channel(-1));
        check.refused("channel 512", () -> desk.channel(512));
        check.refused("send -1", () -> desk.send(-1, 0));
        check.refused("send 512", () -> desk.send(512, 0));
        check.refused("send word -1", () -> desk.send(511, -1));
        check.refused("send word 32768", () -> desk.send(511, 32768));
        check.refused("key -1", () -> desk.key(-1));
        check.refused("key 32", () -> desk.key(32));
        check.refused("lamps -1", () -> desk.lamps(-1));
        check.refused("lamps 16", () -> desk.lamps(16));
        check.refused("figure -1", () -> desk.figure(-1, true));
        check.refused("figure 16", () -> desk.figure(16, false));
        check.due("last channel kept", desk.channel(511), 5);
        check.due("no key came", desk.channel(015), 0);
        check.due("nothing wanted", desk.told(2), 0);
    }
}
