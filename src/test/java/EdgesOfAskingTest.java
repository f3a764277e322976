/** Promises 23 to 26: one test for each sentence that names a boundary. */
public final class EdgesOfAskingTest {
    private static final int NONE = CellarClub.NONE;
    private static final int[] FAR = {Integer.MIN_VALUE, -99999, -1, 6, Integer.MAX_VALUE};

    public static void main(String[] args) {
        Check check = new Check();
        wouldGetOfNobody(check);
        wouldGetIfNotOpen(check);
        wouldGetNow(check);
        roomForNoWine(check);
        roomThatIsLeft(check);
        roomAtAnyStage(check);
        binsForNothing(check);
        binsForAll(check);
        binsThatJustDo(check);
        binsWithOneWineEach(check);
        shortestOfNoWine(check);
        shortestIfNotOpen(check);
        noDifferenceAbove0(check);
        greatestDifference(check);
        shortestAmongSeveral(check);
        askingChangesNothing(check);
        check.end();
    }

    /** Promise 23: "Throws IndexOutOfBoundsException if there is no such member or wine" */
    private static void wouldGetOfNobody(Check check) {
        check.refused("wouldGet in an empty club", Check.NO_SUCH, Clubs::empty, x -> x.wouldGet(0, 0));
        check.refused("wouldGet of member 2 of 2", Check.NO_SUCH, Clubs::rich, x -> x.wouldGet(2, 1));
        check.refused("wouldGet of wine 3 of 3", Check.NO_SUCH, Clubs::rich, x -> x.wouldGet(1, 3));
        check.refused("wouldGet of nobody, not open", Check.NO_SUCH, Clubs::rich, x -> x.wouldGet(2, 0));
        check.refused("wouldGet of member 6 of 6", Check.NO_SUCH, Clubs::crowded, x -> x.wouldGet(6, 5));
        check.refused("wouldGet of wine 6 of 6", Check.NO_SUCH, Clubs::crowded, x -> x.wouldGet(5, 6));
        for (int far : FAR) {
            check.refused("wouldGet of member " + far, Check.NO_SUCH, Clubs::rich, x -> x.wouldGet(far, 1));
            check.refused("wouldGet of wine " + far, Check.NO_SUCH, Clubs::rich, x -> x.wouldGet(1, far));
        }
        check.due("wouldGet of the last of all", Clubs.crowded().wouldGet(5, 5), 0);
    }

    /** "NONE if the wine is not open" */
    private static void wouldGetIfNotOpen(Check check) {
        CellarClub x = Check.loaded("Cm000m000w0101b01o0001");
        check.due("open", x.wouldGet(0, 0), 1);
        check.due("open, without an order", x.wouldGet(1, 0), 0);
        x.allocate(0);
        check.due("allocated", x.wouldGet(0, 0), NONE);
        check.due("allocated, without an order", x.wouldGet(1, 0), NONE);
        x.deliver(0);
        check.due("delivered", x.wouldGet(0, 0), NONE);
        x.undo();
        x.undo();
        check.due("open again", x.wouldGet(0, 0), 1);
    }

    /** "Returns how many bottles allocate(w) would allocate to this member now" */
    private static void wouldGetNow(Check check) {
        CellarClub x = Check.loaded("Cm999m000w0160w0100");
        check.due("no order", x.wouldGet(0, 0), 0);
        x.order(0, 0, 60);
        check.due("all", x.wouldGet(0, 0), 60);
        x.order(1, 0, 60);
        check.due("still all", x.wouldGet(0, 0), 60);
        check.due("none", x.wouldGet(1, 0), 0);
        x.order(0, 0, 59);
        check.due("all but one", x.wouldGet(0, 0), 59);
        check.due("the last one", x.wouldGet(1, 0), 1);
        x.order(0, 1, 60);
        check.due("of no bottles", x.wouldGet(0, 1), 0);
    }

    /** Promise 24: "Throws IndexOutOfBoundsException if there is no such wine" */
    private static void roomForNoWine(Check check) {
        check.refused("room in an empty club", Check.NO_SUCH, Clubs::empty, x -> x.roomFor(0));
        check.refused("room for wine 3 of 3", Check.NO_SUCH, Clubs::rich, x -> x.roomFor(3));
        check.refused("room for wine 6 of 6", Check.NO_SUCH, Clubs::crowded, x -> x.roomFor(6));
        for (int far : FAR) {
            check.refused("room for wine " + far, Check.NO_SUCH, Clubs::rich, x -> x.roomFor(far));
        }
        check.due("room for the last of six", Clubs.crowded().roomFor(5), 36);
    }

    /** "Returns how many bottles of it can be laid into the bins now." */
    private static void roomThatIsLeft(Check check) {
        check.due("no bins", Check.loaded("Cw0160").roomFor(0), 0);
        check.due("one place", Check.loaded("Cw0160b01").roomFor(0), 1);
        check.due("192 places", Check.loaded("Cw0160b24b24b24b24b24b24b24b24").roomFor(0), 192);
        CellarClub x = Clubs.brimful();
        for (int w = 0; w < 6; w++) {
            check.due("all is full, wine " + w, x.roomFor(w), 0);
        }
        x.drink(0, 0, 1);
        check.due("one place for the same wine", x.roomFor(0), 1);
        check.due("no place for another wine", x.roomFor(1), 0);
        x.drink(0, 0, 7);
        x.drink(1, 0, 8);
        x.drink(2, 0, 7);
        check.due("one bottle less than full", x.roomFor(0), 23);
        check.due("no place beside one bottle", x.roomFor(5), 0);
        x.drink(2, 0, 1);
        check.due("an emptied bin for the same wine", x.roomFor(0), 24);
        check.due("an emptied bin for another wine", x.roomFor(5), 24);
    }

    /** Room is told for open, allocated and delivered wines alike. */
    private static void roomAtAnyStage(Check check) {
        CellarClub x = Clubs.rich();
        check.due("for a delivered wine", x.roomFor(0), 4 + 6 + 1);
        check.due("for an open wine", x.roomFor(1), 4 + 6);
        check.due("for an allocated wine", x.roomFor(2), 4 + 6);
    }

    /** Promise 25: "the smallest number of bins in which all bottles that are in the cellar could lie", of none */
    private static void binsForNothing(Check check) {
        check.due("nothing there", new CellarClub().fewestBins(), 0);
        check.due("no bottles", Clubs.crowded().fewestBins(), 0);
        check.due("bottles that are not delivered", Check.loaded("Cm000w0160b24o0060").fewestBins(), 0);
        CellarClub x = Check.loaded("Cm000w0160b24b24b24o0060");
        x.allocate(0);
        check.due("bottles that are allocated", x.fewestBins(), 0);
        x.deliver(0);
        check.due("bottles in the cellar", x.fewestBins(), 3);
        x.drink(0, 0, 60);
        check.due("bottles that were drunk", x.fewestBins(), 0);
    }

    /** All bins are needed. */
    private static void binsForAll(Check check) {
        CellarClub x = Clubs.brimful();
        check.due("a full cellar", x.fewestBins(), 8);
        x.drink(0, 0, 8);
        x.drink(1, 0, 8);
        x.drink(2, 0, 7);
        check.due("25 of a wine", x.fewestBins(), 8);
        x.drink(2, 0, 1);
        check.due("24 of a wine", x.fewestBins(), 7);
        x.drink(3, 0, 8);
        x.drink(4, 0, 8);
        x.drink(5, 0, 7);
        check.due("1 of a wine", x.fewestBins(), 7);
        x.drink(5, 0, 1);
        check.due("none of a wine", x.fewestBins(), 6);
    }

    private static int fewest(String text) {
        CellarClub x = Check.loaded(text);
        for (int w = 0; w < x.about(1); w++) {
            x.allocate(w);
            x.deliver(w);
        }
        return x.fewestBins();
    }

    /** Bins that just have room, and one bottle more. */
    private static void binsThatJustDo(Check check) {
        check.due("one of one", fewest("Cm000w0160b01o0001"), 1);
        check.due("24 of 24", fewest("Cm000w0160b24b24o0024"), 1);
        check.due("25 of 24 and 24", fewest("Cm000w0160b24b24o0025"), 2);
        check.due("48 of 24 and 24", fewest("Cm000w0160b24b24b24o0048"), 2);
        check.due("49 of 24, 24 and 24", fewest("Cm000w0160b24b24b24o0049"), 3);
        check.due("nine of 5 and 4", fewest("Cm000w0160b03b05b04b02o0009"), 2);
        check.due("ten of 5, 4 and another", fewest("Cm000w0160b03b05b04b02o0010"), 3);
        check.due("eight of one each", fewest("Cm000w0160b01b01b01b01b01b01b01b01o0008"), 8);
    }

    /** "each bin with bottles of one wine" */
    private static void binsWithOneWineEach(Check check) {
        check.due("two bottles of two wines", fewest("Cm000w0101w0101b24b24o0001o0101"), 2);
        check.due("24 bottles of one wine", fewest("Cm000w0160w0160b24b24o0024"), 1);
        check.due("six bottles of six wines",
                fewest("Cm000w0101w0101w0101w0101w0101w0101b24b24b24b24b24b24o0001o0101o0201o0301o0401o0501"), 6);
        // 7 + 5 for the twelve, and the 6 for the six; the greatest bin for the six would leave 6 + 5 for the twelve.
        check.due("as much room as bottles", fewest("Cm000w0160w0160b05b06b07o0012o0106"), 3);
        check.due("20 in the first bin, 1 in the second", fewest("Cm000w0160w0160b24b01b01o0020o0101"), 2);
        check.due("1 in the first bin, 20 in the second", fewest("Cm000w0160w0160b01b24b01o0001o0120"), 2);
        check.due("20 in the last bin, 1 in the one before", fewest("Cm000w0160w0160b02b01b24o0020o0101"), 2);
        // 10 needs the bin of 10; 16 needs 8 and 8.
        check.due("not the greatest bins for the most bottles", fewest("Cm000w0160w0160b10b08b08b09o0016o0110"), 3);
    }

    /** Promise 26: "Throws IndexOutOfBoundsException if there is no such wine" */
    private static void shortestOfNoWine(Check check) {
        check.refused("shortest in an empty club", Check.NO_SUCH, Clubs::empty, x -> x.shortest(0));
        check.refused("shortest of wine 3 of 3", Check.NO_SUCH, Clubs::rich, x -> x.shortest(3));
        check.refused("shortest of wine 6 of 6", Check.NO_SUCH, Clubs::crowded, x -> x.shortest(6));
        for (int far : FAR) {
            check.refused("shortest of wine " + far, Check.NO_SUCH, Clubs::rich, x -> x.shortest(far));
        }
        check.due("shortest of the last of six", Clubs.crowded().shortest(5), NONE);
    }

    /** "NONE if the wine is not open" */
    private static void shortestIfNotOpen(Check check) {
        CellarClub x = Check.loaded("Cm000w0101b01o0002");
        check.due("open", x.shortest(0), 0);
        x.allocate(0);
        check.due("allocated", x.shortest(0), NONE);
        x.deliver(0);
        check.due("delivered", x.shortest(0), NONE);
    }

    /** "or there is no such difference above 0" */
    private static void noDifferenceAbove0(Check check) {
        check.due("no members", Check.loaded("Cw0101").shortest(0), NONE);
        check.due("no orders", Check.loaded("Cm000m000w0101").shortest(0), NONE);
        check.due("all for all", Check.loaded("Cm000m000w0105o0002o1003").shortest(0), NONE);
        check.due("a difference of 1", Check.loaded("Cm000m000w0104o0002o1003").shortest(0), 1);
        check.due("no bottles", Check.loaded("Cm000m000w0100o1001").shortest(0), 1);
        check.due("60 for one", Check.loaded("Cm000w0160o0060").shortest(0), NONE);
        check.due("59 for one", Check.loaded("Cm000w0159o0060").shortest(0), 0);
    }

    /** "Returns the member with the greatest difference of the order and wouldGet()" */
    private static void greatestDifference(Check check) {
        check.due("5 and 6", Check.loaded("Cm000m000w0100o0005o1006").shortest(0), 1);
        check.due("6 and 5", Check.loaded("Cm000m000w0100o0006o1005").shortest(0), 0);
        check.due("60 by the last of six",
                Check.loaded("Cm999m999m999m999m999m000w0160o0010o1010o2010o3010o4020o5060").shortest(0), 5);
        // Member 0 orders more, but lacks fewer.
        check.due("50 of 60 and none of 11", Check.loaded("Cm999m000w0150o0060o1011").shortest(0), 1);
    }

    /** "among several the lowest one" */
    private static void shortestAmongSeveral(Check check) {
        check.due("all alike", Check.loaded("Cm000m000m000w0100o0005o1005o2005").shortest(0), 0);
        check.due("the first has less", Check.loaded("Cm000m000m000w0100o0004o1005o2005").shortest(0), 1);
        check.due("10 of 60 each", Check.loaded("Cm009m009w0120o0060o1060").shortest(0), 0);
    }

    /** "these and all following methods up to the save slots change nothing." */
    private static void askingChangesNothing(Check check) {
        check.toldOnly("wouldGet of an open wine", 5, Clubs::rich, x -> x.wouldGet(1, 1));
        check.toldOnly("wouldGet of an allocated wine", NONE, Clubs::rich, x -> x.wouldGet(1, 2));
        check.toldOnly("roomFor", 11, Clubs::rich, x -> x.roomFor(0));
        check.toldOnly("fewestBins", 2, Clubs::rich, x -> x.fewestBins());
        check.toldOnly("shortest of an open wine", NONE, Clubs::rich, x -> x.shortest(1));
        check.toldOnly("shortest of an allocated wine", NONE, Clubs::rich, x -> x.shortest(2));
        check.toldOnly("wouldGet of many", 0, Clubs::crowded, x -> x.wouldGet(5, 5));
        check.toldOnly("fewestBins of many", 0, Clubs::crowded, x -> x.fewestBins());
    }
}
