/** Promises 9 and 10: pulse and want. */
public final class PulseTest {
    public static void main(String[] args) {
        Check check = new Check();
        sums(check);
        everyCounter(check);
        wants(check);
        refusals(check);
        check.end();
    }

    private static void sums(Check check) {
        moves(check, 0, true, 1, false);
        moves(check, 0, false, 077776, false);
        moves(check, 5, false, 4, false);
        moves(check, 1, false, 077777, false);
        moves(check, 077776, true, 077777, false);
        moves(check, 077777, true, 1, false);
        moves(check, 077777, false, 077776, false);
        moves(check, 037776, true, 037777, false);
        moves(check, 037777, true, 0, true);
        moves(check, 040001, false, 040000, false);
        moves(check, 040000, false, 077777, true);
        moves(check, 040000, true, 040001, false);
    }

    private static void moves(Check check, int from, boolean up, int to, boolean overflow) {
        GuidanceDesk desk = new Rig().poke(050, from).desk;
        check.due("overflow of " + from + " " + up, desk.pulse(050, up), overflow);
        check.due("pulse of " + from + " " + up, desk.peek(050), to);
        check.due("nothing is wanted", desk.told(2), 0);
        check.due("no cycles", desk.cycles(), 0);
    }

    private static void everyCounter(Check check) {
        GuidanceDesk desk = new GuidanceDesk();
        // A pulse knows the erasable word itself, whatever bank is told.
        desk.poke(Rig.EB, 01400);
        for (int i = 20; i <= 48; i++) {
            desk.poke(i, 037777);
            check.due("overflow " + i, desk.pulse(i, true), true);
            check.due("counter " + i, desk.peek(i), 0);
            desk.pulse(i, true);
            check.due("counter again " + i, desk.peek(i), 1);
        }
        check.due("wanted", desk.told(2), 0);
        check.due("word 19", desk.peek(19), 0);
        check.due("word 49", desk.peek(49), 0);
    }

    private static void wants(Check check) {
        GuidanceDesk desk = new GuidanceDesk();
        int due = 0;
        for (int n = 1; n <= 10; n++) {
            desk.want(n);
            due |= 1 << n - 1;
            check.due("wanted", desk.told(2), due);
            desk.want(n);
            check.due("wanted twice", desk.told(2), due);
        }
    }

    private static void refusals(Check check) {
        GuidanceDesk desk = new GuidanceDesk();
        check.refused("pulse 19", () -> desk.pulse(19, true));
        check.refused("pulse 49", () -> desk.pulse(49, false));
        check.refused("pulse -1", () -> desk.pulse(-1, true));
        check.refused("want 0", () -> desk.want(0));
        check.refused("want 11", () -> desk.want(11));
        check.refused("want -1", () -> desk.want(-1));
        check.due("word 19 kept", desk.peek(19), 0);
        check.due("word 49 kept", desk.peek(49), 0);
        check.due("nothing wanted", desk.told(2), 0);
    }
}
