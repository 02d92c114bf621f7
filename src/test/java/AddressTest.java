/** Promise 11: which word an address means to an instruction. */
public final class AddressTest {
    private static final int TAKE = 030000;
    private static final int EXCHANGE = 056000;

    private static final Check CHECK = new Check();

    public static void main(String[] args) {
        unswitchedErasable();
        switchedErasable();
        switchedRegisters();
        switchedFixed();
        unswitchedFixed();
        takenFromAnywhere();
        CHECK.end();
    }

    private static int taken(Rig rig, int address) {
        return rig.program(TAKE + address).poke(Rig.Z, 04000).run(1).desk.peek(Rig.A);
    }

    private static void unswitchedErasable() {
        for (int address : new int[] {010, 0377, 0400, 01000, 01376, 01377}) {
            Rig rig = new Rig().poke(Rig.EB, 02400).poke(address, 5);
            CHECK.due("erasable " + address, taken(rig, address), 5);
            rig.program(EXCHANGE + address).poke(Rig.A, 7).poke(Rig.Z, 04000).run(1);
            CHECK.due("written " + address, rig.desk.peek(address), 7);
        }
    }

    private static void switchedErasable() {
        for (int bank = 0; bank < 8; bank++) {
            for (int place : new int[] {010, 0200, 0377}) {
                Rig rig = new Rig().poke(Rig.EB, bank * 0400).poke(bank * 0400 + place, 5);
                CHECK.due("bank " + bank + " place " + place, taken(rig, 01400 + place), 5);
                rig.program(EXCHANGE + 01400 + place).poke(Rig.A, 7).poke(Rig.Z, 04000).run(1);
                CHECK.due("written", rig.desk.peek(bank * 0400 + place), 7);
            }
        }
        Rig rig = new Rig().poke(01400, 4).poke(02400, 6);
        CHECK.due("address 01400 in bank 3", taken(rig.poke(Rig.BB, 3), 01400), 4);
        CHECK.due("address 01400 in bank 5", taken(rig.poke(Rig.BB, 5), 01400), 6);
        // Counters by an instruction that knows the bank.
        rig = new Rig().program(024000 + 01426).poke(Rig.EB, 03400).run(1);
        CHECK.due("bank 7", rig.desk.peek(03426), 1);
        CHECK.due("bank 0", rig.desk.peek(026), 0);
    }

    private static void switchedRegisters() {
        Rig rig = new Rig().poke(Rig.L, 5);
        CHECK.due("L by bank 0", taken(rig, 01401), 5);
        rig.program(EXCHANGE + 01420).poke(Rig.A, 1).poke(Rig.Z, 04000).run(1);
        CHECK.due("an editor by bank 0", rig.desk.peek(020), 040000);
        rig.program(EXCHANGE + 01403).poke(Rig.A, 077777).poke(Rig.Z, 04000).run(1);
        CHECK.due("EB by bank 0", rig.desk.peek(Rig.EB), 03400);
        rig = new Rig().wide(040002);
        CHECK.due("A by bank 0", taken(rig, 01400), 2);
        rig = new Rig().poke(Rig.EB, 0400).poke(0420, 0).poke(Rig.A, 1);
        rig.program(EXCHANGE + 01420).run(1);
        CHECK.due("no editor in bank 1", rig.desk.peek(0420), 1);
    }

    private static void switchedFixed() {
        for (int told = 0; told < 32; told++) {
            Rig rig = new Rig().poke(Rig.FB, told * 02000);
            rig.desk.fix(told % 8, 012, 5);
            rig.desk.fix(told % 8, 01777, 6);
            CHECK.due("fixed bank " + told, taken(rig, 02012), 5);
            CHECK.due("end of fixed bank " + told, taken(rig, 03777), 6);
        }
        Rig rig = new Rig().poke(Rig.BB, 016007);
        rig.desk.fix(7, 0, 4);
        CHECK.due("fixed bank 7 by BB", taken(rig, 02000), 4);
    }

    private static void unswitchedFixed() {
        Rig rig = new Rig().poke(Rig.FB, 012000);
        rig.desk.fix(2, 1, 5);
        rig.desk.fix(2, 01777, 6);
        rig.desk.fix(3, 0, 7);
        rig.desk.fix(3, 01777, 8);
        CHECK.due("address 04001", taken(rig, 04001), 5);
        CHECK.due("address 05777", taken(rig, 05777), 6);
        CHECK.due("address 06000", taken(rig, 06000), 7);
        CHECK.due("address 07777", taken(rig, 07777), 8);
    }

    private static void takenFromAnywhere() {
        Rig rig = new Rig().poke(0500, 024100).poke(Rig.Z, 0500).run(1);
        CHECK.due("from an erasable word", rig.desk.peek(0100), 1);
        CHECK.due("Z behind it", rig.desk.peek(Rig.Z), 0501);
        rig = new Rig().poke(Rig.EB, 02000).poke(02012, 024100).poke(Rig.Z, 01412).run(1);
        CHECK.due("from a switched erasable word", rig.desk.peek(0100), 1);
        rig = new Rig().poke(Rig.FB, 014000).poke(Rig.Z, 02012);
        rig.desk.fix(6, 012, 024100);
        CHECK.due("from a switched fixed word", rig.run(1).desk.peek(0100), 1);
        rig = new Rig().poke(Rig.A, 024100).poke(Rig.Z, 0).run(1);
        CHECK.due("from A", rig.desk.peek(0100), 1);
        // A call of Q changes Q before the word there is taken, so it does not return.
        rig = new Rig().program(06000).programAt(06000, Rig.Q).run(3);
        CHECK.due("Z by Q", rig.desk.peek(Rig.Z), 06001);
        CHECK.due("Q by Q", rig.desk.peek(Rig.Q), 3);
        rig = new Rig().programAt(07777, 024100).poke(Rig.Z, 07777).run(1);
        CHECK.due("Z behind the last address", rig.desk.peek(Rig.Z), 0);
    }
}
