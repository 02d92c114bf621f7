/** Promises 11 and 13, by the terms of time: each counter just before its cycle, at it, and at its end. */
public final class TimeEdgesTest {
    private static final int TIME2 = 024;
    private static final int TIME1 = 025;
    private static final int TIME3 = 026;
    private static final int TIME4 = 027;
    private static final int TIME5 = 030;
    private static final int TIME6 = 031;
    private static final int CONTROL = 013;
    private static final int RUNS = 040000;

    // An instruction of one cycle that does itself again.
    private static final int STAY = 014000;

    private static final Check CHECK = new Check();

    public static void main(String[] args) {
        cyclesAreCounted();
        cyclesOfPlainCodes();
        cyclesOfExtendedCodes();
        time1();
        time2();
        time3();
        time5();
        time4();
        sumsWithoutOverflow();
        time6OnlyByItsBit();
        time6AtMultiplesOfEight();
        time6Ends();
        time6IsZeroAlready();
        time6Far();
        allAtOneCycle();
        passedInAnInstruction();
        doneBehindTheInstruction();
        controlWrittenInTheInstruction();
        passedInAnInterrupt();
        passedInAnAlarm();
        CHECK.end();
    }

    /** A desk on which so many cycles have passed; what is wanted by then does not come. */
    private static Rig at(int cycles) {
        Rig rig = new Rig().program(STAY);
        rig.desk.restart();
        return rig.run(cycles);
    }

    private static Rig controlled(Rig rig, int word) {
        rig.desk.send(CONTROL, word);
        return rig;
    }

    private static void cyclesAreCounted() {
        CHECK.sentence("Promises 11 and 13, time", "Cycles are counted.");
        GuidanceDesk desk = new Rig().program(STAY).desk;
        CHECK.due("none", desk.cycles(), 0);
        desk.step(0);
        CHECK.due("none of no steps", desk.cycles(), 0);
        desk.step(1);
        CHECK.due("one", desk.cycles(), 1);
        desk.step(2000);
        desk.restart();
        CHECK.due("a restart leaves them", desk.cycles(), 2001);
    }

    private static void cyclesOfPlainCodes() {
        CHECK.sentence("Promises 11 and 13, an instruction", "Cycles in ( ).");
        // A row for each code, and in it a number for each part.
        int[] due = {
            1, 1, 1, 1,
            2, 1, 1, 1,
            3, 2, 2, 2,
            2, 2, 2, 2,
            2, 2, 2, 2,
            2, 3, 2, 2,
            2, 2, 2, 2,
            2, 2, 2, 2};
        for (int i = 0; i < due.length; i++) {
            GuidanceDesk desk = new Rig().program(i * 02000 + 0100).desk;
            CHECK.due("code " + i / 4 + ", part " + i % 4, desk.step(1), due[i]);
            CHECK.due("counted", desk.cycles(), due[i]);
        }
        for (int k : new int[] {3, 4, 6}) {
            CHECK.due("K = " + k, new Rig().program(k).desk.step(1), 1);
        }
        CHECK.due("RESUME", new Rig().program(Rig.RESUME).desk.step(1), 2);
    }

    private static void cyclesOfExtendedCodes() {
        CHECK.sentence("Promises 11 and 13, an instruction", "Cycles in ( ).");
        int[] due = {
            2, 2, 2, 2,
            6, 2, 2, 2,
            2, 2, 2, 2,
            3, 3, 3, 3,
            3, 3, 3, 3,
            2, 2, 2, 2,
            2, 2, 2, 2,
            3, 3, 3, 3};
        for (int i = 0; i < due.length; i++) {
            GuidanceDesk desk = new Rig().poke(Rig.A, 1).program(Rig.EXTEND, i * 02000 + 0100).desk;
            CHECK.due("extending", desk.step(1), 1);
            CHECK.due("extended code " + i / 4 + ", part " + i % 4, desk.step(1), due[i]);
            CHECK.due("counted", desk.cycles(), due[i] + 1);
        }
        for (int word : new int[] {012000, 014000, 016000, 062000, 064000, 066000}) {
            CHECK.due("a jump that is made", new Rig().program(Rig.EXTEND, word).desk.step(2), 2);
        }
        for (int by : new int[] {0, 1}) {
            Rig rig = new Rig().poke(0100, by).program(Rig.EXTEND, 010100);
            CHECK.due("a division by " + by, rig.desk.step(2), 7);
        }
        CHECK.due("an alarm", new Rig().program(Rig.EXTEND, 07000).desk.step(2), 3);
    }

    private static void time1() {
        CHECK.sentence("Promise 11, time", "Each time that they pass a multiple of 0200: TIME1 becomes the sum of"
                + " it and 1, cut");
        CHECK.due("at 0177", at(0177).desk.peek(TIME1), 0);
        CHECK.due("at 0200", at(0200).desk.peek(TIME1), 1);
        CHECK.due("at 0377", at(0377).desk.peek(TIME1), 1);
        CHECK.due("at 0400", at(0400).desk.peek(TIME1), 2);
        CHECK.due("at no cycle", at(0).desk.peek(TIME1), 0);
    }

    private static void time2() {
        CHECK.sentence("Promise 11, time", "and if that was an overflow, TIME2 likewise");
        Rig rig = at(0177).poke(TIME1, 037777).run(1);
        CHECK.due("TIME1 goes round", rig.desk.peek(TIME1), 0);
        CHECK.due("TIME2", rig.desk.peek(TIME2), 1);
        CHECK.due("nothing is wanted", rig.desk.told(2), 0);
        rig = at(0177).poke(TIME1, 037776).run(1);
        CHECK.due("TIME1 at its end", rig.desk.peek(TIME1), 037777);
        CHECK.due("TIME2 is left", rig.desk.peek(TIME2), 0);
        rig = at(0177).poke(TIME1, 037777).poke(TIME2, 037777).run(1);
        CHECK.due("TIME2 goes round", rig.desk.peek(TIME2), 0);
        CHECK.due("which wants nothing", rig.desk.told(2), 0);
        rig = at(0177).poke(TIME1, 037777).poke(TIME2, 077777).run(1);
        CHECK.due("TIME2 from -0", rig.desk.peek(TIME2), 1);
    }

    private static void time3() {
        CHECK.sentence("Promise 11, time", "then TIME3, and if that was one, interrupt 3 is wanted.");
        timer("TIME3", TIME3, 0200, 3);
    }

    private static void time5() {
        CHECK.sentence("Promise 11, time", "0100 behind a multiple of 0200: TIME5, interrupt 2");
        timer("TIME5", TIME5, 0100, 2);
    }

    private static void time4() {
        CHECK.sentence("Promise 11, time", "0140 behind: TIME4, interrupt 4.");
        timer("TIME4", TIME4, 0140, 4);
    }

    private static void timer(String name, int timer, int cycle, int interrupt) {
        CHECK.due(name + " before", at(cycle - 1).desk.peek(timer), 0);
        CHECK.due(name + " at it", at(cycle).desk.peek(timer), 1);
        CHECK.due(name + " before the second time", at(cycle + 0177).desk.peek(timer), 1);
        CHECK.due(name + " the second time", at(cycle + 0200).desk.peek(timer), 2);
        Rig rig = at(0).poke(timer, 037777).run(cycle - 1);
        CHECK.due(name + " wants nothing before", rig.desk.told(2), 0);
        CHECK.due(name + " wants", rig.run(1).desk.told(2), 1 << interrupt - 1);
        CHECK.due(name + " goes round", rig.desk.peek(timer), 0);
        rig = at(cycle - 1).poke(timer, 037776).run(1);
        CHECK.due(name + " at its end", rig.desk.peek(timer), 037777);
        CHECK.due(name + " at its end wants nothing", rig.desk.told(2), 0);
        CHECK.due(name + " then wants", rig.run(0200).desk.told(2), 1 << interrupt - 1);
        rig = new Rig().program(STAY).run(cycle - 1).poke(timer, 037777).run(2);
        CHECK.due("what " + name + " wants comes", rig.desk.peek(Rig.Z), 04000 + 4 * interrupt);
    }

    private static void sumsWithoutOverflow() {
        CHECK.sentence("Promise 11, time", "becomes the sum of it and 1, cut");
        int[] from = {040000, 077775, 077776, 077777};
        int[] to = {040001, 077776, 077777, 1};
        for (int i = 0; i < from.length; i++) {
            Rig rig = at(0).poke(TIME1, from[i]).poke(TIME3, from[i]).poke(TIME4, from[i]).poke(TIME5, from[i]);
            rig.run(0200);
            for (int timer : new int[] {TIME1, TIME3, TIME4, TIME5}) {
                CHECK.due("counter " + timer + " from " + from[i], rig.desk.peek(timer), to[i]);
            }
            CHECK.due("TIME2 from " + from[i], rig.desk.peek(TIME2), 0);
            CHECK.due("wanted from " + from[i], rig.desk.told(2), 0);
        }
    }

    private static void time6OnlyByItsBit() {
        CHECK.sentence("Promise 11, time", "At each multiple of 010, if the highest bit of channel 013 is 1");
        for (int word : new int[] {0, 037777}) {
            Rig rig = controlled(at(0).poke(TIME6, 1), word).run(0200);
            CHECK.due("TIME6 with " + word, rig.desk.peek(TIME6), 1);
            CHECK.due("wanted with " + word, rig.desk.told(2), 0);
            CHECK.due("the channel with " + word, rig.desk.channel(CONTROL), word);
        }
        Rig rig = controlled(at(0).poke(TIME6, 0), 037777).run(0200);
        CHECK.due("TIME6 that is 0 wants nothing", rig.desk.told(2), 0);
        for (int word : new int[] {040000, 077777}) {
            rig = controlled(at(0).poke(TIME6, 5), word).run(010);
            CHECK.due("TIME6 with " + word, rig.desk.peek(TIME6), 4);
            CHECK.due("the channel with " + word, rig.desk.channel(CONTROL), word);
        }
        // Only this channel moves it.
        for (int i : new int[] {012, 014}) {
            rig = at(0).poke(TIME6, 5);
            rig.desk.send(i, 077777);
            CHECK.due("TIME6 with channel " + i, rig.run(010).desk.peek(TIME6), 5);
        }
    }

    private static void time6AtMultiplesOfEight() {
        CHECK.sentence("Promise 11, time", "At each multiple of 010");
        for (int cycles = 0; cycles <= 0220; cycles++) {
            Rig rig = controlled(at(0).poke(TIME6, 01000), RUNS).run(cycles);
            CHECK.due("TIME6 at " + cycles, rig.desk.peek(TIME6), 01000 - cycles / 8);
        }
    }

    private static void time6Ends() {
        CHECK.sentence("Promise 11, time", "TIME6 is changed as by code 2, part 3, extended; if it is +0 or -0 then,"
                + " interrupt 1 is wanted, and that bit becomes 0.");
        int[] from = {1, 077776};
        int[] to = {0, 077777};
        for (int i = 0; i < from.length; i++) {
            Rig rig = controlled(at(0).poke(TIME6, from[i]), 077777).run(7);
            CHECK.due("wanted before", rig.desk.told(2), 0);
            CHECK.due("wanted then", rig.run(1).desk.told(2), 1);
            CHECK.due("TIME6 from " + from[i], rig.desk.peek(TIME6), to[i]);
            CHECK.due("the channel", rig.desk.channel(CONTROL), 037777);
            CHECK.due("TIME6 rests", rig.poke(TIME6, 5).run(010).desk.peek(TIME6), 5);
        }
        int[] not = {2, 077775};
        int[] nearer = {1, 077776};
        for (int i = 0; i < not.length; i++) {
            Rig rig = controlled(at(0).poke(TIME6, not[i]), 077777).run(010);
            CHECK.due("TIME6 from " + not[i], rig.desk.peek(TIME6), nearer[i]);
            CHECK.due("wanted from " + not[i], rig.desk.told(2), 0);
            CHECK.due("the channel from " + not[i], rig.desk.channel(CONTROL), 077777);
        }
    }

    private static void time6IsZeroAlready() {
        CHECK.sentence("Promise 11, time", "if it is +0 or -0 then, interrupt 1 is wanted, and that bit becomes 0.");
        for (int zero : new int[] {0, 077777}) {
            Rig rig = controlled(at(0).poke(TIME6, zero), 040001).run(010);
            CHECK.due("TIME6 from " + zero, rig.desk.peek(TIME6), zero);
            CHECK.due("wanted from " + zero, rig.desk.told(2), 1);
            CHECK.due("the channel from " + zero, rig.desk.channel(CONTROL), 1);
        }
    }

    private static void time6Far() {
        CHECK.sentence("Promise 11, time", "TIME6 is changed as by code 2, part 3, extended");
        CHECK.due("from 037777", controlled(at(0).poke(TIME6, 037777), RUNS).run(010).desk.peek(TIME6), 037776);
        CHECK.due("from 040000", controlled(at(0).poke(TIME6, 040000), RUNS).run(010).desk.peek(TIME6), 040001);
    }

    private static void allAtOneCycle() {
        CHECK.sentence("Promise 11, time", "in the order of the cycles; at one cycle TIME6 last.");
        Rig rig = at(0177).poke(TIME1, 037777).poke(TIME3, 037777).poke(TIME6, 1);
        controlled(rig, RUNS).run(1);
        CHECK.due("wanted", rig.desk.told(2), 5);
        CHECK.due("TIME1", rig.desk.peek(TIME1), 0);
        CHECK.due("TIME2", rig.desk.peek(TIME2), 1);
        CHECK.due("TIME3", rig.desk.peek(TIME3), 0);
        CHECK.due("TIME6", rig.desk.peek(TIME6), 0);
        CHECK.due("TIME4 has another cycle", rig.desk.peek(TIME4), 1);
        CHECK.due("TIME5 has another cycle", rig.desk.peek(TIME5), 1);
    }

    private static void passedInAnInstruction() {
        CHECK.sentence("Promise 11, time", "All that is passed in an instruction is done behind it");
        // Six cycles of a division, of which each one in turn is the multiple.
        for (int before = 0; before <= 6; before++) {
            Rig rig = at(0200 - 7 + before).poke(TIME6, 5).program(Rig.EXTEND, 010100);
            controlled(rig.poke(Rig.Z, 04000), RUNS).run(1);
            long from = rig.desk.cycles();
            int passed = rig.desk.peek(TIME1);
            rig.run(1);
            CHECK.due("cycles", rig.desk.cycles(), from + 6);
            CHECK.due("TIME1 from " + from, rig.desk.peek(TIME1), 1);
            CHECK.due("TIME6 from " + from, rig.desk.peek(TIME6), 4);
            CHECK.due("passed before only where the first word met it", passed, before == 6 ? 1 : 0);
        }
    }

    private static void doneBehindTheInstruction() {
        CHECK.sentence("Promise 11, time", "All that is passed in an instruction is done behind it");
        Rig rig = at(0177).poke(Rig.Z, 04000);
        CHECK.due("TIME1 taken while the cycle passes", rig.does(030000 + TIME1).wide(), 0);
        CHECK.due("TIME1 behind it", rig.desk.peek(TIME1), 1);
        rig = at(0177).poke(TIME1, 5).poke(Rig.A, 037777).poke(Rig.Z, 04000);
        CHECK.due("TIME1 written while the cycle passes", rig.does(054000 + TIME1).peek(TIME1), 0);
        CHECK.due("TIME2 of what was written", rig.desk.peek(TIME2), 1);
        // The word of one interrupt that time wants is not taken in the same step.
        rig = new Rig().program(STAY).poke(TIME5, 037777).run(0100);
        CHECK.due("none going on", rig.desk.told(1), 0);
        CHECK.due("wanted", rig.desk.told(2), 2);
    }

    private static void controlWrittenInTheInstruction() {
        CHECK.sentence("Promise 11, time", "All that is passed in an instruction is done behind it");
        Rig rig = at(6).poke(TIME6, 5).poke(Rig.A, RUNS).program(Rig.EXTEND, 01013).poke(Rig.Z, 04000).run(2);
        CHECK.due("the bit written at this cycle counts", rig.desk.peek(TIME6), 4);
        rig = controlled(at(6).poke(TIME6, 5), RUNS).program(Rig.EXTEND, 01013).poke(Rig.Z, 04000).run(2);
        CHECK.due("so does the bit taken away", rig.desk.peek(TIME6), 5);
    }

    private static void passedInAnInterrupt() {
        CHECK.sentence("Promise 11, interrupts", "(3 cycles, in place of an instruction)");
        for (int before = 1; before <= 3; before++) {
            Rig rig = new Rig().program(STAY).run(0200 - before);
            rig.desk.want(10);
            rig.run(1);
            CHECK.due("TIME1 passed in an interrupt", rig.desk.peek(TIME1), 1);
        }
    }

    private static void passedInAnAlarm() {
        CHECK.sentence("Promise 11, time", "All that is passed in an instruction is done behind it");
        // The alarm makes nothing wanted, and what time wants comes after that.
        Rig rig = at(0176).poke(TIME3, 037777).program(Rig.EXTEND, 07000).poke(Rig.Z, 04000).run(2);
        CHECK.due("alarms", rig.desk.told(5), 1);
        CHECK.due("wanted", rig.desk.told(2), 4);
        // Channel 013 is 0 behind the alarm, so TIME6 rests.
        rig = controlled(at(6).poke(TIME6, 5), RUNS).program(Rig.EXTEND, 07000).poke(Rig.Z, 04000).run(2);
        CHECK.due("TIME6", rig.desk.peek(TIME6), 5);
    }
}
