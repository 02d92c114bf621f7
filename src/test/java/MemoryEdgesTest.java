/**
 * Promises 3, 4, 6, 7 and 11, by the terms they lean on: the ends of the banks, the registers that
 * keep only some bits, the words that edit, and the channels.
 */
public final class MemoryEdgesTest {
    private static final int X = 0100;
    private static final int TAKE = 030000;
    private static final int EXCHANGE = 056000;
    private static final int[] WORDS = {
        0, 1, 0177, 0200, 0377, 0400, 01777, 02000, 03777, 04000, 07777, 010000, 025252, 037777, 040000,
        040001, 052525, 077776, 077777};

    private static final Check CHECK = new Check();

    public static void main(String[] args) {
        banks();
        unswitchedErasable();
        switchedErasable();
        switchedFixed();
        unswitchedFixed();
        fixedWordsStay();
        eb();
        fb();
        fixedBankModuloEight();
        z();
        bb();
        alwaysZero();
        roundRight();
        shiftRight();
        roundLeft();
        rightBySeven();
        editorsWrittenByInstructions();
        editedWhenWrittenNotRead();
        plainBesideThem();
        channels();
        channelZero();
        channelsOfRegisters();
        CHECK.end();
    }

    private static int taken(Rig rig, int address) {
        return rig.does(TAKE + address).peek(Rig.A);
    }

    private static void banks() {
        CHECK.sentence("Promises 2, 3 and 4, memory",
                "Erasable words 0 .. 03777, in banks of 0400; fixed words in 8 banks of 02000.");
        for (int bank = 0; bank < 8; bank++) {
            // The first word of the erasable bank 0 is A, the last one of each bank is plain.
            Rig rig = new Rig().poke(bank * 0400, 5).poke(bank * 0400 + 0377, 6).poke(Rig.EB, bank * 0400);
            CHECK.due("the first word of erasable bank " + bank, rig.desk.peek(bank * 0400), 5);
            CHECK.due("the last word of erasable bank " + bank, rig.desk.peek(bank * 0400 + 0377), 6);
            CHECK.due("the last word by its address", taken(rig, 01777), 6);
            rig = new Rig().poke(Rig.FB, bank * 02000);
            rig.desk.fix(bank, 0, 7);
            rig.desk.fix(bank, 01777, 8);
            rig.programAt(06001, TAKE + 02000, TAKE + 03777).poke(Rig.Z, 06001);
            CHECK.due("the first word of fixed bank " + bank, rig.run(1).desk.peek(Rig.A), 7);
            CHECK.due("the last word of fixed bank " + bank, rig.run(1).desk.peek(Rig.A), 8);
        }
    }

    private static void unswitchedErasable() {
        CHECK.sentence("Promise 11, memory", "An ADDRESS 0 .. 07777: below 01400 that erasable word");
        CHECK.due("address 01377", taken(new Rig().poke(Rig.EB, 03400).poke(01377, 5).poke(03777, 6), 01377), 5);
        CHECK.due("address 01000", taken(new Rig().poke(Rig.EB, 03400).poke(01000, 5).poke(03400, 6), 01000), 5);
        CHECK.due("address 1", taken(new Rig().poke(Rig.EB, 03400).poke(1, 5).poke(03401, 6), 1), 5);
        Rig rig = new Rig().poke(Rig.A, 7).poke(Rig.EB, 03400);
        CHECK.due("01377 written", rig.does(EXCHANGE + 01377).peek(01377), 7);
    }

    private static void switchedErasable() {
        CHECK.sentence("Promise 11, memory",
                "below 02000 the word of it less 01400 in the erasable bank told by EB");
        for (int bank = 1; bank < 8; bank++) {
            Rig rig = new Rig().poke(Rig.EB, bank * 0400).poke(bank * 0400, 5).poke(bank * 0400 + 0377, 6);
            CHECK.due("address 01400 in bank " + bank, taken(rig, 01400), 5);
            CHECK.due("address 01777 in bank " + bank, taken(rig.poke(Rig.Z, 04000), 01777), 6);
            rig.poke(Rig.A, 7).poke(Rig.Z, 04000).does(EXCHANGE + 01777);
            CHECK.due("01777 written in bank " + bank, rig.desk.peek(bank * 0400 + 0377), 7);
            CHECK.due("01400 unwritten in bank " + bank, rig.desk.peek(bank * 0400), 5);
        }
        CHECK.due("address 01401 in bank 0", taken(new Rig().poke(Rig.L, 5), 01401), 5);
        CHECK.due("address 01400 in bank 0", taken(new Rig().wide(040005), 01400), 5);
    }

    private static void switchedFixed() {
        CHECK.sentence("Promise 11, memory", "below 04000 that of it less 02000 in the fixed bank told by FB");
        for (int bank = 0; bank < 8; bank++) {
            Rig rig = new Rig().poke(Rig.FB, bank * 02000);
            rig.desk.fix(bank, 01777, 6);
            CHECK.due("address 03777 in bank " + bank, taken(rig, 03777), 6);
            rig.desk.fix(bank, 0, TAKE + 02000);
            rig.poke(Rig.Z, 02000).run(1);
            CHECK.due("address 02000 in bank " + bank, rig.desk.peek(Rig.A), TAKE + 02000);
        }
    }

    private static void unswitchedFixed() {
        CHECK.sentence("Promise 11, memory", "else that of it less 04000 in the fixed banks 2 and 3.");
        for (int fb : new int[] {0, 016000}) {
            Rig rig = new Rig().poke(Rig.FB, fb);
            rig.desk.fix(2, 01777, 5);
            rig.desk.fix(3, 0, 6);
            rig.desk.fix(3, 01777, 7);
            CHECK.due("address 04000", taken(rig, 04000), TAKE + 04000);
            CHECK.due("address 05777", taken(rig.poke(Rig.Z, 04000), 05777), 5);
            CHECK.due("address 06000", taken(rig.poke(Rig.Z, 04000), 06000), 6);
            CHECK.due("address 07777", taken(rig.poke(Rig.Z, 04000), 07777), 7);
        }
    }

    private static void fixedWordsStay() {
        CHECK.sentence("Promise 11, memory", "What is written to fixed words is lost.");
        // The codes that write have an erasable address, whatever the part is: E is K modulo 02000.
        int[] codes = {020000, 022000, 024000, 026000, 052000, 054000, 056000};
        for (int code : codes) {
            stays("code " + code, new Rig().poke(Rig.A, 5).poke(Rig.L, 6), code + X, false);
        }
        for (int code : new int[] {022000, 024000, 026000}) {
            stays("extended code " + code, new Rig().poke(X, 5).poke(Rig.Q, 6), code + X, true);
        }
    }

    private static void stays(String what, Rig rig, int word, boolean extended) {
        for (int bank = 0; bank < 8; bank++) {
            rig.desk.fix(bank, X, 0123);
            rig.desk.fix(bank, X + 1, 0456);
        }
        if (extended) {
            rig.doesExtended(word);
        } else {
            rig.does(word);
        }
        for (int bank = 0; bank < 8; bank++) {
            CHECK.due(what + ", bank " + bank, rig.desk.fix(bank, X, 0), 0123);
            CHECK.due(what + ", behind it in bank " + bank, rig.desk.fix(bank, X + 1, 0), 0456);
        }
        CHECK.due(what + ", the erasable word", rig.desk.peek(X) != 0, true);
    }

    private static void eb() {
        CHECK.sentence("Promises 3 and 11, EB",
                "3 EB: of what is written, the bits 03400; the bank is that by 0400.");
        for (int word : WORDS) {
            CHECK.due("EB poked " + word, new Rig().poke(Rig.EB, word).desk.peek(Rig.EB), word & 03400);
            GuidanceDesk desk = new Rig().poke(Rig.A, word).does(EXCHANGE + Rig.EB);
            CHECK.due("EB written " + word, desk.peek(Rig.EB), word & 03400);
            CHECK.due("FB beside it", desk.peek(Rig.FB), 0);
        }
        Rig rig = new Rig().poke(Rig.EB, 077777).poke(03410, 5);
        CHECK.due("the last bank, of all bits", taken(rig, 01410), 5);
        rig = new Rig().poke(Rig.EB, 074377).poke(010, 6);
        CHECK.due("the first bank, of all other bits", taken(rig, 01410), 6);
    }

    private static void fb() {
        CHECK.sentence("Promises 3 and 11, FB", "4 FB: the bits 076000");
        for (int word : WORDS) {
            CHECK.due("FB poked " + word, new Rig().poke(Rig.FB, word).desk.peek(Rig.FB), word & 076000);
            GuidanceDesk desk = new Rig().poke(Rig.A, word).does(EXCHANGE + Rig.FB);
            CHECK.due("FB written " + word, desk.peek(Rig.FB), word & 076000);
            CHECK.due("EB beside it", desk.peek(Rig.EB), 0);
        }
    }

    private static void fixedBankModuloEight() {
        CHECK.sentence("Promise 11, FB", "the bank is that by 02000, modulo 8.");
        int[] told = {016000, 020000, 036000, 040000, 060000, 076000};
        int[] banks = {7, 0, 7, 0, 0, 7};
        for (int i = 0; i < told.length; i++) {
            Rig rig = new Rig().poke(Rig.FB, told[i]);
            rig.desk.fix(banks[i], 5, 0777);
            CHECK.due("FB " + told[i], taken(rig, 02005), 0777);
        }
    }

    private static void z() {
        CHECK.sentence("Promises 3 and 11, Z", "5 Z: the bits 07777.");
        for (int word : WORDS) {
            CHECK.due("Z poked " + word, new Rig().poke(Rig.Z, word).desk.peek(Rig.Z), word & 07777);
            GuidanceDesk desk = new Rig().poke(Rig.A, word).does(EXCHANGE + Rig.Z);
            CHECK.due("Z written " + word, desk.peek(Rig.Z), word & 07777);
        }
    }

    private static void bb() {
        CHECK.sentence("Promises 3 and 4, BB", "6 BB: read it is FB and EB by 0400; written, FB becomes its"
                + " bits 076000, EB its lowest three times 0400.");
        CHECK.due("BB of the greatest EB", new Rig().poke(Rig.EB, 03400).desk.peek(Rig.BB), 7);
        CHECK.due("BB of the greatest FB", new Rig().poke(Rig.FB, 076000).desk.peek(Rig.BB), 076000);
        for (int word : WORDS) {
            bbWritten(word, new Rig().poke(Rig.EB, 01000).poke(Rig.FB, 052000).poke(Rig.BB, word).desk);
            Rig rig = new Rig().poke(Rig.EB, 01000).poke(Rig.FB, 052000).poke(Rig.A, word);
            bbWritten(word, rig.does(EXCHANGE + Rig.BB));
            CHECK.due("A of BB", rig.desk.peek(Rig.A), 052002);
        }
    }

    private static void bbWritten(int word, GuidanceDesk desk) {
        CHECK.due("FB of BB " + word, desk.peek(Rig.FB), word & 076000);
        CHECK.due("EB of BB " + word, desk.peek(Rig.EB), (word & 7) * 0400);
        CHECK.due("BB of BB " + word, desk.peek(Rig.BB), word & 076007);
    }

    private static void alwaysZero() {
        CHECK.sentence("Promises 3 and 11, word 7", "7 is always 0.");
        for (int word : WORDS) {
            CHECK.due("poked " + word, new Rig().poke(7, word).desk.peek(7), 0);
            CHECK.due("exchanged " + word, new Rig().poke(Rig.A, word).does(EXCHANGE + 7).peek(7), 0);
            CHECK.due("stored " + word, new Rig().poke(Rig.A, word).does(054007).peek(7), 0);
        }
        CHECK.due("counted", new Rig().does(024007).peek(7), 0);
        CHECK.due("added to", new Rig().poke(Rig.A, 5).does(026007).peek(7), 0);
        CHECK.due("augmented", new Rig().doesExtended(024007).peek(7), 0);
        CHECK.due("by the erasable bank 0", new Rig().poke(Rig.A, 5).does(EXCHANGE + 01407).peek(7), 0);
        CHECK.due("written before it", new Rig().poke(Rig.L, 5).does(052006).peek(7), 0);
    }

    private static void roundRight() {
        CHECK.sentence("Promise 3, word 020",
                "020: what is written goes right by one bit, the lowest one round to the top.");
        edited(020, new int[] {0, 1, 2, 040000, 077776, 077777}, new int[] {0, 040000, 1, 020000, 037777, 077777});
    }

    private static void shiftRight() {
        CHECK.sentence("Promise 3, word 021", "021: right by one, the top bit stays and comes behind it.");
        edited(021, new int[] {0, 1, 2, 037777, 040000, 040001, 077777},
                new int[] {0, 0, 1, 017777, 060000, 060000, 077777});
    }

    private static void roundLeft() {
        CHECK.sentence("Promise 3, word 022", "022: left by one, the top bit round to the bottom.");
        edited(022, new int[] {0, 1, 020000, 037777, 040000, 077777},
                new int[] {0, 2, 040000, 077776, 1, 077777});
    }

    private static void rightBySeven() {
        CHECK.sentence("Promise 3, word 023", "023: right by seven, only the lowest seven bits remain.");
        edited(023, new int[] {0, 0177, 0200, 037600, 037777, 040000, 077777},
                new int[] {0, 0, 1, 0177, 0177, 0, 0177});
    }

    private static void edited(int i, int[] words, int[] due) {
        for (int j = 0; j < words.length; j++) {
            CHECK.due("poked " + words[j], new Rig().poke(i, words[j]).desk.peek(i), due[j]);
            GuidanceDesk desk = new Rig().poke(Rig.A, words[j]).does(EXCHANGE + i);
            CHECK.due("written " + words[j], desk.peek(i), due[j]);
        }
    }

    private static void editorsWrittenByInstructions() {
        CHECK.sentence("Promise 11, editing words", "They change when they are written");
        CHECK.due("stored", new Rig().poke(Rig.A, 3).does(054020).peek(020), 040001);
        CHECK.due("counted", new Rig().poke(022, 3).does(024022).peek(022), 016);
        CHECK.due("added to", new Rig().poke(Rig.A, 3).does(026021).peek(021), 1);
        CHECK.due("changed with L", new Rig().poke(Rig.L, 0400).does(022023).peek(023), 2);
        CHECK.due("changed with Q", new Rig().poke(Rig.Q, 3).doesExtended(022020).peek(020), 040001);
        CHECK.due("augmented", new Rig().doesExtended(024020).peek(020), 040000);
        CHECK.due("diminished", new Rig().poke(022, 3).doesExtended(026022).peek(022), 012);
        GuidanceDesk desk = new Rig().poke(Rig.A, 3).poke(Rig.L, 3).does(052020);
        CHECK.due("the first of two changed", desk.peek(020), 040001);
        CHECK.due("the second of two changed", desk.peek(021), 1);
        desk = new Rig().poke(Rig.A, 3).poke(Rig.L, 3).does(020021);
        CHECK.due("the first of two added to", desk.peek(021), 1);
        CHECK.due("the second of two added to", desk.peek(022), 6);
        CHECK.due("by the erasable bank 0", new Rig().poke(Rig.A, 3).does(EXCHANGE + 01420).peek(020), 040001);
    }

    private static void editedWhenWrittenNotRead() {
        CHECK.sentence("Promises 4 and 11, editing words",
                "(They change when they are written, not when they are read.)");
        for (int i = 020; i <= 023; i++) {
            Rig rig = new Rig().poke(i, 012345);
            int once = rig.desk.peek(i);
            CHECK.due("peeked again", rig.desk.peek(i), once);
            CHECK.due("taken", rig.does(TAKE + i).peek(Rig.A), once);
            CHECK.due("behind that", rig.desk.peek(i), once);
            rig.poke(Rig.Z, 04000).does(010000 + i);
            CHECK.due("compared", rig.desk.peek(i), once);
            rig.poke(Rig.Z, 04000).does(050000 + i);
            CHECK.due("added to an instruction", rig.desk.peek(i), once);
        }
    }

    private static void plainBesideThem() {
        CHECK.sentence("Promises 3 and 4, memory", "Erasable words 0 .. 023 are these; all else are plain");
        for (int i : new int[] {010, 011, 012, 013, 014, 015, 016, 017, 024, 025, 0377, 0400, 0420, 03777}) {
            Rig rig = new Rig().poke(i, 077777);
            CHECK.due("word " + i, rig.desk.peek(i), 077777);
            CHECK.due("word " + i + " was", rig.desk.poke(i, 1), 077777);
            CHECK.due("word " + i + " is", rig.desk.peek(i), 1);
        }
        CHECK.due("L", new Rig().poke(Rig.L, 077777).desk.peek(Rig.L), 077777);
        CHECK.due("Q", new Rig().poke(Rig.Q, 077777).desk.peek(Rig.Q), 077777);
    }

    private static void channels() {
        CHECK.sentence("Promises 6, 7 and 11, channels", "CHANNELS 0 .. 0777 have words");
        for (int i : new int[] {3, 4, 0776, 0777}) {
            for (int word : new int[] {0, 1, 040000, 077777}) {
                GuidanceDesk desk = new Rig().poke(Rig.A, word).doesExtended(01000 + i);
                CHECK.due("channel " + i + " written", desk.channel(i), word);
                Rig rig = new Rig();
                rig.desk.send(i, word);
                CHECK.due("channel " + i + " taken", rig.doesExtended(i).peek(Rig.A), word);
            }
        }
    }

    private static void channelZero() {
        CHECK.sentence("Promises 6, 7 and 11, channels", "0 is always 0.");
        Rig rig = new Rig().poke(Rig.A, 05252);
        rig.desk.send(0, 077777);
        CHECK.due("sent", rig.desk.channel(0), 0);
        CHECK.due("A beside it", rig.desk.peek(Rig.A), 05252);
        CHECK.due("L beside it", rig.desk.peek(Rig.L), 0);
        CHECK.due("written", rig.doesExtended(01000).channel(0), 0);
        CHECK.due("A behind writing it", rig.desk.peek(Rig.A), 05252);
        CHECK.due("both or", rig.poke(Rig.Z, 04000).doesExtended(05000).channel(0), 0);
        CHECK.due("A of both or", rig.desk.peek(Rig.A), 05252);
        CHECK.due("both and", rig.poke(Rig.Z, 04000).doesExtended(03000).channel(0), 0);
        CHECK.due("A of both and", rig.desk.peek(Rig.A), 0);
        CHECK.due("A that becomes it", new Rig().poke(Rig.A, 5).doesExtended(0).peek(Rig.A), 0);
    }

    private static void channelsOfRegisters() {
        CHECK.sentence("Promises 6, 7 and 11, channels", "1 is L, 2 is Q");
        for (int i = 1; i <= 2; i++) {
            Rig rig = new Rig().poke(i, 077777);
            CHECK.due("channel " + i, rig.desk.channel(i), 077777);
            rig.desk.send(i, 0);
            CHECK.due("register " + i + " sent 0", rig.desk.peek(i), 0);
            rig.desk.send(i, 040000);
            CHECK.due("register " + i + " sent 040000", rig.desk.peek(i), 040000);
            CHECK.due("the other register", rig.desk.peek(3 - i), 0);
            CHECK.due("the channel of the lamps", rig.desk.channel(010), 0);
            rig.desk.send(i, 3);
            CHECK.due("the lamps", rig.desk.lamps(0), 0);
            GuidanceDesk desk = new Rig().wide(040003).doesExtended(01000 + i);
            CHECK.due("register " + i + " written by its channel, cut", desk.peek(i), 3);
            desk = new Rig().poke(i, 6).wide(3).doesExtended(03000 + i);
            CHECK.due("register " + i + " of both", desk.peek(i), 2);
        }
        GuidanceDesk desk = new GuidanceDesk();
        desk.send(3, 077777);
        CHECK.due("3 is not EB", desk.peek(Rig.EB), 0);
    }
}
