/** Promises 23 to 26. */
public final class WouldBeTest {
    private static final int NONE = CellarClub.NONE;

    public static void main(String[] args) {
        Check check = new Check();
        getting(check);
        room(check);
        fewest(check);
        shortest(check);
        changeNothing(check);
        check.end();
    }

    private static void getting(Check check) {
        CellarClub x = Check.loaded("Cm003m001m000w0911w0503b12o0009o1004o2100");
        check.due("23: member 0", x.wouldGet(0, 0), 8);
        check.due("23: member 1", x.wouldGet(1, 0), 3);
        check.due("23: without an order", x.wouldGet(2, 0), 0);
        check.due("23: no orders at all", x.wouldGet(2, 1), 0);
        check.thrown("23: member 3", Check.NO_SUCH, () -> x.wouldGet(3, 0));
        check.thrown("23: member -1", Check.NO_SUCH, () -> x.wouldGet(-1, 0));
        check.thrown("23: wine 2", Check.NO_SUCH, () -> x.wouldGet(0, 2));
        check.thrown("23: wine -1", Check.NO_SUCH, () -> x.wouldGet(0, -1));
        x.allocate(0);
        check.due("23: as foretold", x.has(0, 0, 1), 8);
        check.due("23: allocated", x.wouldGet(0, 0), NONE);
        x.deliver(0);
        check.due("23: delivered", x.wouldGet(0, 0), NONE);
        check.thrown("23: delivered, member 3", Check.NO_SUCH, () -> x.wouldGet(3, 0));
    }

    private static void room(Check check) {
        CellarClub x = Check.loaded("Cm001w0107w0202w0303b06b04b03b24o0007o0102");
        check.due("24: all bins", x.roomFor(0), 37);
        x.allocate(0);
        x.deliver(0);
        x.allocate(1);
        x.deliver(1);
        check.bins("24: before", x, 0, 0, 2, 7);
        check.due("24: empty ones and those with the wine", x.roomFor(0), 6 + 4 + 17);
        check.due("24: of the other wine", x.roomFor(1), 6 + 4 + 1);
        check.due("24: of an open wine", x.roomFor(2), 6 + 4);
        check.thrown("24: wine 3", Check.NO_SUCH, () -> x.roomFor(3));
        check.thrown("24: wine -1", Check.NO_SUCH, () -> x.roomFor(-1));
        CellarClub y = Check.loaded("Cw0101");
        check.due("24: no bins", y.roomFor(0), 0);
    }

    private static CellarClub filled(String text) {
        CellarClub x = Check.loaded(text);
        for (int w = 0; w < x.about(1); w++) {
            x.allocate(w);
            x.deliver(w);
        }
        return x;
    }

    private static void fewest(Check check) {
        check.due("25: nothing", Check.loaded("Cm000w0101b04").fewestBins(), 0);
        check.due("25: one", filled("Cm000w0160b03b24b03o0004").fewestBins(), 1);
        check.due("25: two greatest", filled("Cm000w0160b03b05b06b06o0012").fewestBins(), 2);
        check.due("25: all", filled("Cm000w0160b01b01b01b01b01b01b01b01o0008").fewestBins(), 8);
        CellarClub v = filled("Cm000w0160b06b06o0012");
        check.due("25: both", v.fewestBins(), 2);
        check.due("25: both again", v.fewestBins(), 2);
        // Six of wine 0 lie in one bin, and seven of wine 1 in the other.
        CellarClub x = filled("Cm000w0160w0160b06b10o0006o0107");
        check.due("25: a bin holds one wine", x.fewestBins(), 2);
        check.due("25: asked again", x.fewestBins(), 2);
        x.addBin(1);
        check.due("25: a bin more", x.fewestBins(), 2);
        x.addBin(13);
        check.due("25: a greater bin is no help", x.fewestBins(), 2);
        x.drink(0, 0, 6);
        check.due("25: a wine less", x.fewestBins(), 1);
        x.drink(0, 1, 7);
        check.due("25: none", x.fewestBins(), 0);
        // The greatest bins for the greatest wine first would take one bin more.
        CellarClub y = filled("Cm000w0160w0160b10b08b08b09o0016o0110");
        check.due("25: 8 and 8, and 10", y.fewestBins(), 3);
        // Bottles that were spread fit closer.
        CellarClub z = filled("Cm000w0160b04b04b04b04o0004");
        z.move(0, 1, 1);
        z.move(0, 2, 1);
        z.move(0, 3, 1);
        check.due("25: spread", z.about(8), 0);
        check.due("25: could lie in one", z.fewestBins(), 1);
        check.due("25: six wines", filled("Cm000w0101w0101w0101w0101w0101w0101b02b02b02b02b02b02b01b01"
                + "o0001o0101o0201o0301o0401o0501").fewestBins(), 6);
    }

    private static void shortest(Check check) {
        CellarClub x = Check.loaded("Cm003m001m000w0911w0503w0360b12o0009o1004o2005o2101o1101o0260");
        check.due("26: five less none", x.shortest(0), 2);
        check.due("26: nobody is short", x.shortest(1), NONE);
        check.due("26: all bottles for one", x.shortest(2), NONE);
        x.order(2, 0, 1);
        check.due("26: nine less seven", x.shortest(0), 0);
        x.order(1, 0, 5);
        check.due("26: a tie goes to the lowest", x.shortest(0), 0);
        x.order(1, 0, 6);
        check.due("26: six less three", x.shortest(0), 1);
        check.thrown("26: wine 3", Check.NO_SUCH, () -> x.shortest(3));
        check.thrown("26: wine -1", Check.NO_SUCH, () -> x.shortest(-1));
        x.allocate(0);
        check.due("26: allocated", x.shortest(0), NONE);
        x.deliver(0);
        check.due("26: delivered", x.shortest(0), NONE);
        check.due("26: no members", Check.loaded("Cw0101").shortest(0), NONE);
    }

    private static void changeNothing(Check check) {
        CellarClub x = Check.loaded("Cm003m001w0911w0503b12o0009o1004o1105");
        x.allocate(0);
        x.deliver(0);
        String before = Check.stateOf(x);
        x.wouldGet(1, 1);
        x.roomFor(1);
        x.fewestBins();
        x.shortest(1);
        x.runScript(2, 4000120000L);
        x.simulate(5, 50);
        check.sameState("23 to 28: asking", x, before);
        check.due("23 to 28: asking is no action", x.undo(), 1);
    }
}
