import java.util.Random;

/** Any calls in any state: nothing but what the document names is thrown, and all answers are in range. */
public final class AnyRunTest {
    private static final int RUNS = 1000;
    // A desk is good for so many calls, and one choice here makes at most five.
    private static final int CALLS = 512;
    private static final int CALLS_OF_ONE_CHOICE = 5;

    private static final Check CHECK = new Check();

    public static void main(String[] args) {
        for (int seed = 0; seed < RUNS; seed++) {
            anyRun(new Random(seed));
        }
        CHECK.end();
    }

    private static void anyRun(Random random) {
        GuidanceDesk desk = new GuidanceDesk();
        int words = random.nextInt(300);
        for (int i = 0; i < words; i++) {
            desk.fix(2 + random.nextInt(2), random.nextInt(100), random.nextInt(32768));
        }
        for (int i = words; i <= CALLS - CALLS_OF_ONE_CHOICE; i += CALLS_OF_ONE_CHOICE) {
            try {
                anyCall(desk, random);
            } catch (IllegalArgumentException e) {
                continue;
            } catch (RuntimeException e) {
                CHECK.due("a call that throws " + e, 1, 0);
            }
        }
    }

    private static void anyCall(GuidanceDesk desk, Random random) {
        switch (random.nextInt(16)) {
            case 0: isWord(desk.fix(random.nextInt(9), random.nextInt(1030), random.nextInt(32800))); break;
            case 1: isWord(desk.poke(random.nextInt(32), random.nextInt(32768))); break;
            case 2: isWord(desk.poke(random.nextInt(2060), random.nextInt(32800))); break;
            case 3: isWord(desk.peek(random.nextInt(2060))); break;
            case 4: inRange("wide", desk.wide(), 0, 65535); break;
            case 5: isWord(desk.channel(random.nextInt(520))); break;
            case 6: desk.send(random.nextInt(20), random.nextInt(32768)); break;
            case 7: desk.key(random.nextInt(34) - 1); break;
            case 8: desk.pulse(random.nextInt(40) + 15, random.nextBoolean()); break;
            case 9: desk.want(random.nextInt(12)); break;
            case 10: desk.restart(); break;
            case 11: inRange("told", desk.told(random.nextInt(8) - 1), -1, 32767); break;
            case 12: inRange("lamps", desk.lamps(random.nextInt(18) - 1), 0, 2047); break;
            case 13: inRange("figure", desk.figure(random.nextInt(18) - 1, random.nextBoolean()), -1, 9); break;
            default: steps(desk, random.nextInt(40));
        }
    }

    private static void steps(GuidanceDesk desk, int n) {
        long before = desk.cycles();
        int taken = desk.step(n);
        CHECK.due("cycles", desk.cycles() - before, taken);
        inRange("taken", taken, n, 6 * n);
        CHECK.due("word 7", desk.peek(7), 0);
        inRange("Z", desk.peek(Rig.Z), 0, 07777);
    }

    private static void isWord(int word) {
        inRange("word", word, 0, 32767);
    }

    private static void inRange(String what, int got, int least, int most) {
        CHECK.due(what + " " + got + " in range", got >= least && got <= most, true);
    }
}
