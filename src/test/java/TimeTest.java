/** Promises 11 and 13: the cycles, and the counters that they move. */
public final class TimeTest {
    private static final int TIME2 = 024;
    private static final int TIME1 = 025;
    private static final int TIME3 = 026;
    private static final int TIME4 = 027;
    private static final int TIME5 = 030;
    private static final int TIME6 = 031;
    private static final int TIMER_CHANNEL = 013;
    private static final int RUNS = 040000;

    // An instruction of one cycle that does itself again.
    private static final int STAY = 014000;

    private static final Check CHECK = new Check();

    public static void main(String[] args) {
        eachOnItsCycle();
        overflows();
        noOverflows();
        longTime();
        time6();
        time6Ends();
        time6Waits();
        doneBehind();
        passedInOne();
        passedByAnInterrupt();
        passedByAnAlarm();
        wantedComes();
        CHECK.end();
    }

    private static Rig staying() {
        return new Rig().program(STAY);
    }

    private static void times(Rig rig, int time1, int time3, int time4, int time5) {
        String at = " at cycle " + rig.desk.cycles();
        CHECK.due("TIME1" + at, rig.desk.peek(TIME1), time1);
        CHECK.due("TIME3" + at, rig.desk.peek(TIME3), time3);
        CHECK.due("TIME4" + at, rig.desk.peek(TIME4), time4);
        CHECK.due("TIME5" + at, rig.desk.peek(TIME5), time5);
        CHECK.due("TIME2" + at, rig.desk.peek(TIME2), 0);
        CHECK.due("TIME6" + at, rig.desk.peek(TIME6), 0);
        CHECK.due("wanted" + at, rig.desk.told(2), 0);
    }

    private static void eachOnItsCycle() {
        Rig rig = staying();
        times(rig.run(077), 0, 0, 0, 0);
        times(rig.run(1), 0, 0, 0, 1);
        times(rig.run(037), 0, 0, 0, 1);
        times(rig.run(1), 0, 0, 1, 1);
        times(rig.run(037), 0, 0, 1, 1);
        times(rig.run(1), 1, 1, 1, 1);
        times(rig.run(077), 1, 1, 1, 1);
        times(rig.run(1), 1, 1, 1, 2);
        times(rig.run(040), 1, 1, 2, 2);
        times(rig.run(040), 2, 2, 2, 2);
        CHECK.due("cycles", rig.desk.cycles(), 0400);
    }

    private static void overflows() {
        Rig rig = staying();
        rig.desk.restart();
        rig.poke(TIME1, 037777).poke(TIME3, 037777).poke(TIME4, 037777).poke(TIME5, 037777);
        CHECK.due("none before", rig.run(077).desk.told(2), 0);
        CHECK.due("TIME5 wants 2", rig.run(1).desk.told(2), 1 << 1);
        CHECK.due("TIME5", rig.desk.peek(TIME5), 0);
        CHECK.due("TIME4 not yet", rig.run(037).desk.told(2), 1 << 1);
        CHECK.due("TIME4 wants 4", rig.run(1).desk.told(2), 1 << 1 | 1 << 3);
        CHECK.due("TIME4", rig.desk.peek(TIME4), 0);
        CHECK.due("TIME3 not yet", rig.run(037).desk.told(2), 1 << 1 | 1 << 3);
        CHECK.due("TIME3 wants 3", rig.run(1).desk.told(2), 1 << 1 | 1 << 2 | 1 << 3);
        CHECK.due("TIME3", rig.desk.peek(TIME3), 0);
        CHECK.due("TIME1", rig.desk.peek(TIME1), 0);
        CHECK.due("TIME2 is one more", rig.desk.peek(TIME2), 1);
        rig.poke(TIME2, 037777).poke(TIME1, 037777).run(0200);
        CHECK.due("TIME2 goes round", rig.desk.peek(TIME2), 0);
        CHECK.due("TIME1 goes round", rig.desk.peek(TIME1), 0);
        CHECK.due("which wants nothing more", rig.desk.told(2), 1 << 1 | 1 << 2 | 1 << 3);
    }

    private static void noOverflows() {
        Rig rig = staying();
        rig.poke(TIME1, 077776).poke(TIME3, 077777).poke(TIME4, 040000).poke(TIME5, 037776).run(0200);
        CHECK.due("TIME1 to -0", rig.desk.peek(TIME1), 077777);
        CHECK.due("TIME2 stays", rig.desk.peek(TIME2), 0);
        CHECK.due("TIME3 from -0", rig.desk.peek(TIME3), 1);
        CHECK.due("TIME4 from below", rig.desk.peek(TIME4), 040001);
        CHECK.due("TIME5 to the end", rig.desk.peek(TIME5), 037777);
        CHECK.due("nothing wanted", rig.desk.told(2), 0);
    }

    private static void longTime() {
        Rig rig = staying();
        for (int i = 0; i < 400; i++) {
            rig.run(2000);
        }
        CHECK.due("many cycles", rig.desk.cycles(), 800000);
        CHECK.due("long TIME1", rig.desk.peek(TIME1), 800000 / 128);
        CHECK.due("long TIME5", rig.desk.peek(TIME5), (800000 + 64) / 128);
    }

    private static void time6() {
        Rig rig = staying().poke(TIME6, 5);
        rig.desk.send(TIMER_CHANNEL, RUNS | 0123);
        CHECK.due("TIME6 before", rig.run(7).desk.peek(TIME6), 5);
        CHECK.due("TIME6 at 010", rig.run(1).desk.peek(TIME6), 4);
        CHECK.due("TIME6 at 017", rig.run(7).desk.peek(TIME6), 4);
        CHECK.due("TIME6 at 020", rig.run(1).desk.peek(TIME6), 3);
        CHECK.due("TIME6 at 030", rig.run(010).desk.peek(TIME6), 2);
        CHECK.due("nothing wanted", rig.desk.told(2), 0);
        CHECK.due("channel 013", rig.desk.channel(TIMER_CHANNEL), RUNS | 0123);
    }

    private static void time6Ends() {
        for (int start : new int[] {1, 077776, 0, 077777}) {
            Rig rig = staying().poke(TIME6, start);
            rig.desk.restart();
            rig.desk.send(TIMER_CHANNEL, RUNS | 0123);
            CHECK.due("nothing before", rig.run(7).desk.told(2), 0);
            CHECK.due("TIME6 wants 1", rig.run(1).desk.told(2), 1);
            CHECK.due("TIME6 ended", rig.desk.peek(TIME6), start < 2 ? 0 : 077777);
            CHECK.due("the highest bit is 0", rig.desk.channel(TIMER_CHANNEL), 0123);
        }
        Rig rig = staying().poke(TIME6, 077774);
        rig.desk.restart();
        rig.desk.send(TIMER_CHANNEL, RUNS);
        CHECK.due("TIME6 from below", rig.run(020).desk.peek(TIME6), 077776);
        CHECK.due("nothing wanted", rig.desk.told(2), 0);
        rig.poke(TIME6, 1).run(0200);
        CHECK.due("it stands then", rig.poke(TIME6, 5).run(010).desk.peek(TIME6), 5);
    }

    private static void time6Waits() {
        Rig rig = staying().poke(TIME6, 5);
        rig.desk.send(TIMER_CHANNEL, 037777);
        CHECK.due("TIME6 not running", rig.run(0200).desk.peek(TIME6), 5);
        CHECK.due("channel 013", rig.desk.channel(TIMER_CHANNEL), 037777);
        CHECK.due("nothing wanted", rig.desk.told(2), 0);
    }

    private static void doneBehind() {
        // Cycle 0200 is the second one of the instruction that takes TIME1.
        Rig rig = staying().run(0176).programAt(04100, 030000 + TIME1, 030000 + TIME1);
        rig.poke(Rig.Z, 04100).run(1);
        CHECK.due("taken before time was", rig.desk.wide(), 0);
        CHECK.due("then time", rig.desk.peek(TIME1), 1);
        CHECK.due("taken behind it", rig.run(1).desk.wide(), 1);
    }

    private static void passedInOne() {
        // Six cycles from 0175 to 0203: the multiple is passed, not met.
        Rig rig = staying().run(0174).programAt(04100, Rig.EXTEND, 010100).poke(Rig.Z, 04100).run(2);
        CHECK.due("cycles", rig.desk.cycles(), 0203);
        CHECK.due("TIME1", rig.desk.peek(TIME1), 1);
        CHECK.due("TIME3", rig.desk.peek(TIME3), 1);
        rig.program(STAY).poke(Rig.Z, 04000).run(0175);
        CHECK.due("TIME1 at 0400", rig.desk.peek(TIME1), 2);
    }

    private static void passedByAnInterrupt() {
        Rig rig = staying().run(0175);
        rig.desk.want(9);
        CHECK.due("cycles of it", rig.desk.step(1), 3);
        CHECK.due("TIME1", rig.desk.peek(TIME1), 1);
    }

    private static void passedByAnAlarm() {
        // The restart comes first, then what time wants.
        Rig rig = staying().poke(TIME3, 037777).run(0175).programAt(04100, Rig.EXTEND, 07000);
        rig.poke(Rig.Z, 04100).run(2);
        CHECK.due("alarm", rig.desk.told(5), 1);
        CHECK.due("wanted behind the alarm", rig.desk.told(2), 1 << 2);
    }

    private static void wantedComes() {
        Rig rig = staying().poke(TIME5, 037777).run(0100);
        CHECK.due("wanted", rig.desk.told(2), 1 << 1);
        CHECK.due("none yet", rig.desk.told(1), 0);
        CHECK.due("comes", rig.run(1).desk.peek(Rig.Z), 04010);
    }
}
