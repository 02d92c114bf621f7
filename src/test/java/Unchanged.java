import java.util.function.Consumer;

/** Holds calls that are refused to "a call that throws changes nothing". */
final class Unchanged {
    private static final int STATES = 3;
    // A desk is good for 512 calls, so that its state is read from several desks that were set up alike.
    private static final int READ_OF_ONE_DESK = 300;

    private static final int TOLD = 6;
    private static final int LAMPS = TOLD + 6;
    private static final int FIGURES = LAMPS + 16;
    private static final int ERASABLE = FIGURES + 32;
    private static final int CHANNELS = ERASABLE + 2048;
    private static final int FIXED = CHANNELS + 512;
    private static final int READINGS = FIXED + 8192;

    private Unchanged() {
    }

    /** The call is refused, and behind it the desk is like one that was not called. */
    static void held(Check check, String what, Consumer<GuidanceDesk> call) {
        for (int state = 0; state < STATES; state++) {
            for (int from = 0; from < READINGS; from += READ_OF_ONE_DESK) {
                GuidanceDesk desk = busy(state);
                GuidanceDesk other = busy(state);
                check.refused(what, () -> call.accept(desk));
                compare(check, what, desk, other, from);
            }
            GuidanceDesk desk = busy(state);
            GuidanceDesk other = busy(state);
            check.refused(what, () -> call.accept(desk));
            goOn(check, what, desk, other);
        }
    }

    private static void compare(Check check, String what, GuidanceDesk desk, GuidanceDesk other, int from) {
        int end = Math.min(from + READ_OF_ONE_DESK, READINGS);
        for (int i = from; i < end; i++) {
            check.due(what + ", reading " + i + " behind it", reading(desk, i), reading(other, i));
        }
    }

    // What RESUME left cannot be read, but the next instructions show it.
    private static void goOn(Check check, String what, GuidanceDesk desk, GuidanceDesk other) {
        for (int i = 0; i < 4; i++) {
            check.due(what + ", a step behind it", desk.step(1), other.step(1));
            for (int word = 0; word <= 0100; word++) {
                check.due(what + ", word " + word + " a step behind it", desk.peek(word), other.peek(word));
            }
        }
    }

    private static long reading(GuidanceDesk desk, int i) {
        if (i < TOLD) {
            return desk.told(i);
        } else if (i < LAMPS) {
            return i % 2 == 0 ? desk.wide() : desk.cycles();
        } else if (i < FIGURES) {
            return desk.lamps(i - LAMPS);
        } else if (i < ERASABLE) {
            return desk.figure((i - FIGURES) / 2, i % 2 == 0);
        } else if (i < CHANNELS) {
            return desk.peek(i - ERASABLE);
        } else if (i < FIXED) {
            return desk.channel(i - CHANNELS);
        }
        return desk.fix((i - FIXED) / 1024, (i - FIXED) % 1024, 0);
    }

    /** A desk with words at the edges of its ranges: behind RESUME, with an interrupt, or with an overflow. */
    private static GuidanceDesk busy(int state) {
        Rig rig = new Rig();
        edges(rig);
        if (state == 0) {
            rig.program(Rig.RESUME).poke(Rig.ZRUPT, 04567).poke(Rig.BRUPT, 024100).run(1);
        } else if (state == 1) {
            rig.desk.want(9);
            rig.programAt(04044, Rig.INHIBIT, Rig.EXTEND, 050050).run(4);
        } else {
            rig.wide(040005).program(050051).run(1);
        }
        rig.desk.want(1);
        rig.desk.want(10);
        return rig.desk;
    }

    private static void edges(Rig rig) {
        for (int bank = 0; bank < 8; bank++) {
            rig.desk.fix(bank, 0, 0101 + bank);
            rig.desk.fix(bank, 01777, 070101 + bank);
        }
        for (int row = 0; row < 16; row++) {
            rig.desk.send(010, row << 11 | 0125 + 3 * row);
        }
        for (int i : new int[] {1, 2, 3, 7, 011, 013, 014, 015, 0776, 0777}) {
            rig.desk.send(i, 012345 + i);
        }
        for (int i = 0; i <= 0101; i++) {
            if (i != Rig.Z) {
                rig.poke(i, 030000 + 011 * i);
            }
        }
        rig.poke(03776, 0123).poke(03777, 076543);
    }
}
