import java.util.function.BiConsumer;

/**
 * Promises 2 to 16: the least and the greatest argument that each call takes, and the first ones
 * below and above, which are refused and change nothing.
 */
public final class ArgumentEdgesTest {
    private static final Check CHECK = new Check();

    public static void main(String[] args) {
        fixTakes();
        fixAnswersWhatItWas();
        fixRefuses();
        pokeTakes();
        pokeAnswersWhatItWas();
        pokeRefuses();
        peekTakes();
        peekRefuses();
        channelTakes();
        sendTakes();
        channelRefuses();
        sendRefuses();
        keyTakes();
        keyRefuses();
        pulseTakes();
        pulseSums();
        pulseOverflows();
        pulseRefuses();
        wantTakes();
        wantRefuses();
        stepTakesNone();
        stepTakesMost();
        cyclesOfAllSteps();
        stepRefuses();
        toldTakes();
        toldRefuses();
        lampsTake();
        lampsRefuse();
        figureTakes();
        figureRefuses();
        severalWrong();
        calls();
        CHECK.end();
    }

    /** An argument just out of its range, and far out of it, is refused; such a call changes nothing. */
    private static void refuses(String what, int least, int most, BiConsumer<GuidanceDesk, Integer> call) {
        int[] outside = {least - 1, most + 1, Integer.MIN_VALUE, Integer.MAX_VALUE};
        for (int value : outside) {
            Unchanged.held(CHECK, what + " of " + value, desk -> call.accept(desk, value));
        }
    }

    private static void fixTakes() {
        CHECK.sentence("Promise 2", "A fixed word becomes another one.");
        for (int bank : new int[] {0, 7}) {
            for (int place : new int[] {0, 1023}) {
                GuidanceDesk desk = new GuidanceDesk();
                desk.fix(bank, place, 32767);
                CHECK.due("the greatest word", desk.fix(bank, place, 0), 32767);
                CHECK.due("the least word", desk.fix(bank, place, 1), 0);
                int neighbour = place == 0 ? 1 : 1022;
                CHECK.due("the word beside it", desk.fix(bank, neighbour, 0), 0);
                CHECK.due("the same place of a bank beside it", desk.fix(bank == 0 ? 1 : 6, place, 0), 0);
            }
        }
    }

    private static void fixAnswersWhatItWas() {
        CHECK.sentence("Promise 2", "Answers what it was.");
        GuidanceDesk desk = new GuidanceDesk();
        CHECK.due("a new word", desk.fix(7, 1023, 077777), 0);
        CHECK.due("the greatest word", desk.fix(7, 1023, 040000), 077777);
        CHECK.due("a word with the highest bit", desk.fix(7, 1023, 040000), 040000);
        CHECK.due("a word that became the same", desk.fix(7, 1023, 0), 040000);
    }

    private static void fixRefuses() {
        CHECK.sentence("Promise 2",
                "IllegalArgumentException: bank is not 0 to 7, place not 0 to 1023, or word not 0 to 32767.");
        refuses("bank", 0, 7, (desk, bank) -> desk.fix(bank, 0, 5));
        refuses("bank with the last place", 0, 7, (desk, bank) -> desk.fix(bank, 1023, 5));
        refuses("place in bank 0", 0, 1023, (desk, place) -> desk.fix(0, place, 5));
        refuses("place in bank 7", 0, 1023, (desk, place) -> desk.fix(7, place, 5));
        refuses("word", 0, 32767, (desk, word) -> desk.fix(0, 0, word));
    }

    private static void pokeTakes() {
        CHECK.sentence("Promise 3", "Erasable word i is written, as an instruction writes it.");
        GuidanceDesk desk = new GuidanceDesk();
        desk.poke(0, 32767);
        CHECK.due("word 0 is A, made wide", desk.wide(), 0177777);
        desk.poke(0, 0);
        CHECK.due("the least word in A", desk.wide(), 0);
        desk.poke(2047, 32767);
        CHECK.due("the greatest word in the last place", desk.peek(2047), 32767);
        CHECK.due("the word before it", desk.peek(2046), 0);
        desk.poke(2047, 0);
        CHECK.due("the least word in the last place", desk.peek(2047), 0);
        desk.poke(020, 1);
        CHECK.due("an editing word", desk.peek(020), 040000);
        desk.poke(7, 1);
        CHECK.due("the word that is always 0", desk.peek(7), 0);
    }

    private static void pokeAnswersWhatItWas() {
        CHECK.sentence("Promise 3", "Answers what it was.");
        GuidanceDesk desk = new GuidanceDesk();
        CHECK.due("Z of a new desk", desk.poke(5, 077777), 04000);
        CHECK.due("Z, of which twelve bits were written", desk.poke(5, 0), 07777);
        CHECK.due("an editing word of a new desk", desk.poke(020, 1), 0);
        CHECK.due("an editing word, as it was edited", desk.poke(020, 0), 040000);
        CHECK.due("word 7", desk.poke(7, 5), 0);
        CHECK.due("word 7 again", desk.poke(7, 0), 0);
        CHECK.due("A with an overflow, cut", new Rig().wide(0137776).desk.poke(0, 0), 077776);
    }

    private static void pokeRefuses() {
        CHECK.sentence("Promise 3",
                "IllegalArgumentException: i is not 0 to 2047, or word not 0 to 32767.");
        refuses("i", 0, 2047, (desk, i) -> desk.poke(i, 5));
        refuses("word for A", 0, 32767, (desk, word) -> desk.poke(0, word));
        refuses("word for BB", 0, 32767, (desk, word) -> desk.poke(6, word));
        refuses("word for an editing word", 0, 32767, (desk, word) -> desk.poke(022, word));
        refuses("word for the last place", 0, 32767, (desk, word) -> desk.poke(2047, word));
    }

    private static void peekTakes() {
        CHECK.sentence("Promise 4", "Erasable word i.");
        GuidanceDesk desk = new Rig().poke(0, 5).poke(2046, 6).poke(2047, 7).desk;
        CHECK.due("the first one", desk.peek(0), 5);
        CHECK.due("the last but one", desk.peek(2046), 6);
        CHECK.due("the last one", desk.peek(2047), 7);
    }

    private static void peekRefuses() {
        CHECK.sentence("Promise 4", "IllegalArgumentException: i is not 0 to 2047.");
        refuses("i", 0, 2047, (desk, i) -> desk.peek(i));
    }

    private static void channelTakes() {
        CHECK.sentence("Promise 6", "A channel.");
        GuidanceDesk desk = new GuidanceDesk();
        desk.send(510, 6);
        desk.send(511, 7);
        CHECK.due("the first one", desk.channel(0), 0);
        CHECK.due("the last but one", desk.channel(510), 6);
        CHECK.due("the last one", desk.channel(511), 7);
    }

    private static void sendTakes() {
        CHECK.sentence("Promise 7", "A channel is written.");
        GuidanceDesk desk = new GuidanceDesk();
        desk.send(0, 32767);
        CHECK.due("channel 0, always 0", desk.channel(0), 0);
        desk.send(511, 32767);
        CHECK.due("the greatest word in the last one", desk.channel(511), 32767);
        CHECK.due("the one before", desk.channel(510), 0);
        desk.send(511, 0);
        CHECK.due("the least word in the last one", desk.channel(511), 0);
    }

    private static void channelRefuses() {
        CHECK.sentence("Promise 6", "IllegalArgumentException: i is not 0 to 511.");
        refuses("i", 0, 511, (desk, i) -> desk.channel(i));
    }

    private static void sendRefuses() {
        CHECK.sentence("Promise 7", "IllegalArgumentException: i is not 0 to 511, or word not 0 to 32767.");
        refuses("i", 0, 511, (desk, i) -> desk.send(i, 5));
        refuses("word for channel 0", 0, 32767, (desk, word) -> desk.send(0, word));
        refuses("word for L", 0, 32767, (desk, word) -> desk.send(1, word));
        refuses("word for the lamps", 0, 32767, (desk, word) -> desk.send(010, word));
        refuses("word for the last channel", 0, 32767, (desk, word) -> desk.send(511, word));
    }

    private static void keyTakes() {
        CHECK.sentence("Promise 8", "A key: its lowest five bits.");
        for (int key : new int[] {0, 1, 15, 16, 31}) {
            GuidanceDesk desk = new GuidanceDesk();
            desk.send(015, 077777);
            desk.key(key);
            CHECK.due("key " + key, desk.channel(015), key);
            CHECK.due("wanted by it", desk.told(2), 020);
        }
    }

    private static void keyRefuses() {
        CHECK.sentence("Promise 8", "IllegalArgumentException: it is not 0 to 31.");
        refuses("key", 0, 31, (desk, key) -> desk.key(key));
    }

    private static void pulseTakes() {
        CHECK.sentence("Promise 9", "A pulse moves a counter: the word of an erasable address becomes"
                + " the sum of it and 1, cut, or of it and -1.");
        for (int i : new int[] {20, 48}) {
            GuidanceDesk desk = new GuidanceDesk();
            CHECK.due("pulse up", desk.pulse(i, true), false);
            CHECK.due("counter " + i, desk.peek(i), 1);
            CHECK.due("the word below", desk.peek(i - 1), 0);
            CHECK.due("the word above", desk.peek(i + 1), 0);
            desk.poke(i, 0);
            CHECK.due("pulse down", desk.pulse(i, false), false);
            CHECK.due("counter " + i + " below 0", desk.peek(i), 077776);
        }
    }

    private static void pulseSums() {
        CHECK.sentence("Promise 9", "the word of an erasable address becomes the sum of it and 1, cut, or of it"
                + " and -1.");
        pulsed(037776, true, 037777, false);
        pulsed(077776, true, 077777, false);
        pulsed(077777, true, 1, false);
        pulsed(1, false, 077777, false);
        pulsed(077777, false, 077776, false);
        pulsed(040001, false, 040000, false);
    }

    private static void pulseOverflows() {
        CHECK.sentence("Promise 9", "Answers whether that was an overflow.");
        pulsed(037777, true, 0, true);
        pulsed(040000, false, 077777, true);
        pulsed(037777, false, 037776, false);
        pulsed(040000, true, 040001, false);
    }

    private static void pulsed(int from, boolean up, int due, boolean overflow) {
        for (int i : new int[] {20, 26, 48}) {
            GuidanceDesk desk = new Rig().poke(i, from).desk;
            String what = "a pulse " + (up ? "up" : "down") + " from " + from;
            CHECK.due(what, desk.pulse(i, up), overflow);
            CHECK.due(what + ", the counter", desk.peek(i), due);
            CHECK.due(what + ", what is wanted", desk.told(2), 0);
            CHECK.due(what + ", cycles", desk.cycles(), 0);
        }
    }

    private static void pulseRefuses() {
        CHECK.sentence("Promise 9", "IllegalArgumentException: i is not 20 to 48.");
        refuses("pulse up", 20, 48, (desk, i) -> desk.pulse(i, true));
        refuses("pulse down", 20, 48, (desk, i) -> desk.pulse(i, false));
        Unchanged.held(CHECK, "pulse of 0", desk -> desk.pulse(0, true));
    }

    private static void wantTakes() {
        CHECK.sentence("Promise 10", "An interrupt is wanted.");
        GuidanceDesk desk = new GuidanceDesk();
        desk.want(1);
        CHECK.due("the first one", desk.told(2), 1);
        desk.want(10);
        CHECK.due("the last one too", desk.told(2), 01001);
        desk.want(10);
        CHECK.due("the last one again", desk.told(2), 01001);
    }

    private static void wantRefuses() {
        CHECK.sentence("Promise 10", "IllegalArgumentException: n is not 1 to 10.");
        refuses("n", 1, 10, (desk, n) -> desk.want(n));
    }

    private static void stepTakesNone() {
        CHECK.sentence("Promise 11", "So many instructions, or interrupts that come.");
        GuidanceDesk desk = new Rig().program(024100).desk;
        desk.want(1);
        CHECK.due("cycles of no steps", desk.step(0), 0);
        CHECK.due("no interrupt came", desk.told(1), 0);
        CHECK.due("Z", desk.peek(Rig.Z), 04000);
        CHECK.due("cycles", desk.cycles(), 0);
        CHECK.due("an interrupt is one of them", desk.step(1), 3);
        CHECK.due("no instruction behind it", desk.peek(0100), 0);
    }

    private static void stepTakesMost() {
        CHECK.sentence("Promise 11", "Answers how many cycles that took.");
        CHECK.due("one of one cycle", new Rig().program(014000).desk.step(1), 1);
        CHECK.due("2000 of one cycle", new Rig().program(014000).desk.step(2000), 2000);
        GuidanceDesk desk = new Rig().program(024100, 014000).desk;
        CHECK.due("2000 of two cycles and of one", desk.step(2000), 3000);
        CHECK.due("how often it was counted", desk.peek(0100), 1000);
        CHECK.due("only the last steps' cycles", desk.step(1), 2);
    }

    private static void cyclesOfAllSteps() {
        CHECK.sentence("Promise 13", "How many cycles were counted.");
        GuidanceDesk desk = new Rig().program(024100, 014000).desk;
        CHECK.due("none", desk.cycles(), 0);
        desk.step(2000);
        CHECK.due("those of the most steps", desk.cycles(), 3000);
        desk.step(1);
        CHECK.due("those of all steps", desk.cycles(), 3002);
    }

    private static void stepRefuses() {
        CHECK.sentence("Promise 11", "IllegalArgumentException: n is not 0 to 2000.");
        refuses("n", 0, 2000, (desk, n) -> desk.step(n));
    }

    private static void toldTakes() {
        CHECK.sentence("Promise 14", "1 if interrupts are inhibited, else 0 (what = 0); 1 if one is going on"
                + " (1); those that are wanted, as bits (bit n - 1 for n) (2); 1 if the next instruction is"
                + " extended (3); what is added to the next one, NONE if nothing is (4); how many alarms"
                + " there were (5).");
        int[] none = {0, 0, 0, 0, GuidanceDesk.NONE, 0};
        allTold("a new desk", new GuidanceDesk(), none);
        int[] inhibited = {1, 0, 0, 0, GuidanceDesk.NONE, 0};
        allTold("inhibited", new Rig().does(Rig.INHIBIT), inhibited);
        int[] goingOn = {0, 1, 01000, 0, GuidanceDesk.NONE, 0};
        GuidanceDesk desk = new GuidanceDesk();
        desk.want(1);
        desk.want(10);
        desk.step(1);
        allTold("going on", desk, goingOn);
        int[] extended = {0, 0, 0, 1, GuidanceDesk.NONE, 0};
        allTold("extended", new Rig().does(Rig.EXTEND), extended);
        int[] zeroAdded = {0, 0, 0, 0, 0, 0};
        allTold("+0 added", new Rig().does(050100), zeroAdded);
        int[] mostAdded = {0, 0, 0, 1, 077777, 0};
        allTold("-0 added", new Rig().poke(0100, 077777).doesExtended(050100), mostAdded);
        int[] alarmed = {1, 0, 0, 0, GuidanceDesk.NONE, 1};
        allTold("an alarm", new Rig().doesExtended(07000), alarmed);
    }

    private static void allTold(String state, GuidanceDesk desk, int[] due) {
        for (int what = 0; what < due.length; what++) {
            CHECK.due("told " + what + " of " + state, desk.told(what), due[what]);
        }
    }

    private static void toldRefuses() {
        CHECK.sentence("Promise 14", "IllegalArgumentException: another what.");
        refuses("what", 0, 5, (desk, what) -> desk.told(what));
    }

    private static void lampsTake() {
        CHECK.sentence("Promise 15", "What a row of lamps has.");
        GuidanceDesk desk = new GuidanceDesk();
        CHECK.due("the first row, empty", desk.lamps(0), 0);
        CHECK.due("the last row, empty", desk.lamps(15), 0);
        desk.send(010, 03777);
        desk.send(010, 074001);
        CHECK.due("the first row, full", desk.lamps(0), 03777);
        CHECK.due("the last row, with the lowest lamp", desk.lamps(15), 1);
        for (int row = 1; row < 15; row++) {
            CHECK.due("an empty row between them", desk.lamps(row), 0);
        }
    }

    private static void figureTakes() {
        CHECK.sentence("Promise 16", "The figure that five lamps of a row show");
        GuidanceDesk desk = new GuidanceDesk();
        desk.send(010, 03777);
        desk.send(010, 074001);
        CHECK.due("left of the first row", desk.figure(0, false), 9);
        CHECK.due("right of the first row", desk.figure(0, true), 9);
        CHECK.due("left of the last row", desk.figure(15, false), GuidanceDesk.NONE);
        CHECK.due("right of the last row", desk.figure(15, true), GuidanceDesk.NONE);
    }

    private static void lampsRefuse() {
        CHECK.sentence("Promise 15", "IllegalArgumentException: row is not 0 to 15.");
        refuses("row", 0, 15, (desk, row) -> desk.lamps(row));
    }

    private static void figureRefuses() {
        CHECK.sentence("Promise 16", "IllegalArgumentException: row is not 0 to 15.");
        refuses("row, left", 0, 15, (desk, row) -> desk.figure(row, false));
        refuses("row, right", 0, 15, (desk, row) -> desk.figure(row, true));
    }

    private static void severalWrong() {
        CHECK.sentence("All promises", "Methods throw what their comments name, the one named first when"
                + " several would do; a call that throws changes nothing.");
        Unchanged.held(CHECK, "fix with all wrong", desk -> desk.fix(8, 1024, 32768));
        Unchanged.held(CHECK, "fix with bank and place wrong", desk -> desk.fix(-1, 1024, 0));
        Unchanged.held(CHECK, "fix with place and word wrong", desk -> desk.fix(0, -1, -1));
        Unchanged.held(CHECK, "poke with both wrong", desk -> desk.poke(2048, 32768));
        Unchanged.held(CHECK, "send with both wrong", desk -> desk.send(-1, -1));
    }

    private static void calls() {
        CHECK.sentence("What it is", "An object is used for at most 512 calls after it has been made");
        GuidanceDesk desk = new Rig().program(024100, 014000).desk;
        for (int call = 3; call <= 510; call++) {
            CHECK.due("call " + call, desk.step(2000), 3000);
        }
        CHECK.due("the last call but one", desk.cycles(), 508 * 3000);
        CHECK.due("the last call", desk.peek(0100), 508000 % 16384);
    }
}
