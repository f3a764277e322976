/** The sentences of "Terms" that name a boundary, one test for each; the text and the undoing have their own. */
public final class EdgesOfTermsTest {
    private static final int NONE = CellarClub.NONE;
    private static final String THREE_GREAT_BINS = "b24b24b24";

    public static void main(String[] args) {
        Check check = new Check();
        theLastCall(check);
        sixMembers(check);
        pointsOfAMember(check);
        penceThatAreOwed(check);
        sixWines(check);
        priceOfAWine(check);
        bottlesThatWereBought(check);
        reserveAtFirst(check);
        openAtFirst(check);
        orderAtFirst(check);
        orderOfAnOpenWine(check);
        claims(check);
        fewerThanTheClaim(check);
        exactFractions(check);
        tiesOfMembers(check);
        untilNoBottlesAreLeft(check);
        noLongerInTheReserve(check);
        halfOfThePrice(check);
        restOfThePrice(check);
        pointsTo999(check);
        ordersBecomeNone(check);
        eightBins(check);
        sizeOfABin(check);
        emptyOrOneWine(check);
        leastRoomFirst(check);
        amongSeveralWithTheWine(check);
        fullBinsHaveNoRoom(check);
        noBinsOfAnotherWine(check);
        aBinWithOneBottle(check);
        smallestWithRoomForAll(check);
        smallestAmongSeveral(check);
        greatestIfThereIsNone(check);
        greatestAmongSeveral(check);
        andSoOn(check);
        fewestBottlesFirst(check);
        amongSeveralFromTheHighest(check);
        onlyBinsWithThisWine(check);
        allOfThemTogether(check);
        fromThenOnInTheCellar(check);
        drinkingTakesFromTheCellar(check);
        givingLeavesThemThere(check);
        aCorkedBottleGoes(check);
        theLastOfTheReserve(check);
        inItsPlace(check);
        lessThanNothing(check);
        check.end();
    }

    /** "An object is used for at most 512 calls after it has been made" */
    private static void theLastCall(Check check) {
        CellarClub x = Check.loaded("Cm000w0160");
        for (int call = 12; call <= 498; call++) {
            x.order(0, 0, call % 61);
        }
        for (int left = 13; left >= 1; left--) {
            x.undo();
        }
        check.due("the 512th call", x.undo(), 0);
        CellarClub y = new CellarClub();
        for (int call = 1; call <= 510; call += 2) {
            y.append(call % 256);
            y.clearText();
        }
        check.due("the 511th call", y.append('C'), 1);
        check.due("the 512th call of another object", y.errorPosition(), NONE);
    }

    /** "There are at most 6 members, numbered from 0 in the order in which they were added" */
    private static void sixMembers(Check check) {
        CellarClub x = new CellarClub();
        check.thrown("no member yet", Check.NO_SUCH, () -> x.member(0, 0));
        for (int m = 0; m < 6; m++) {
            check.due("number of a member", x.addMember(100 + m), m);
            int next = m + 1;
            check.thrown("member " + next + " is not there yet", Check.NO_SUCH, () -> x.member(next, 0));
        }
        for (int m = 0; m < 6; m++) {
            check.due("points of member " + m, x.member(m, 0), 100 + m);
        }
        check.thrown("a seventh member", Check.STATE, () -> x.addMember(0));
        check.due("six members", x.about(0), 6);
        check.thrown("a seventh member is not there", Check.NO_SUCH, () -> x.member(6, 0));
    }

    /** "each with points (0 to 999)" */
    private static void pointsOfAMember(Check check) {
        CellarClub x = new CellarClub();
        x.addMember(0);
        x.addMember(999);
        check.due("no points", x.member(0, 0), 0);
        check.due("all points", x.member(1, 0), 999);
        check.refused("points below 0", Check.RANGE, Clubs::rich, c -> c.addMember(-1));
        check.refused("points above 999", Check.RANGE, Clubs::rich, c -> c.addMember(1000));
    }

    /** "and with pence that are owed to the club" */
    private static void penceThatAreOwed(Check check) {
        CellarClub x = new CellarClub();
        check.due("nobody owes", x.about(7), 0);
        x.addMember(999);
        check.due("nothing is owed at first", x.member(0, 1), 0);
        CellarClub full = Clubs.brimful();
        check.due("32 bottles at 99", full.member(5, 1), 32 * 99);
        check.due("192 bottles at 99", full.about(7), 192 * 99);
    }

    /** "There are at most 6 wines, numbered likewise" */
    private static void sixWines(Check check) {
        CellarClub x = new CellarClub();
        check.thrown("no wine yet", Check.NO_SUCH, () -> x.wine(0, 0));
        for (int w = 0; w < 6; w++) {
            check.due("number of a wine", x.addWine(10 + w, w), w);
            int next = w + 1;
            check.thrown("wine " + next + " is not there yet", Check.NO_SUCH, () -> x.wine(next, 0));
        }
        for (int w = 0; w < 6; w++) {
            check.due("price of wine " + w, x.wine(w, 0), 10 + w);
        }
        check.thrown("a seventh wine", Check.STATE, () -> x.addWine(1, 1));
        check.due("six wines", x.about(1), 6);
        check.thrown("a seventh wine is not there", Check.NO_SUCH, () -> x.wine(6, 0));
    }

    /** "each with a price from 1 to 99 pence a bottle" */
    private static void priceOfAWine(Check check) {
        CellarClub x = new CellarClub();
        x.addWine(1, 5);
        x.addWine(99, 5);
        check.due("the least price", x.wine(0, 0), 1);
        check.due("the greatest price", x.wine(1, 0), 99);
        check.refused("price 0", Check.RANGE, Clubs::rich, c -> c.addWine(0, 5));
        check.refused("price 100", Check.RANGE, Clubs::rich, c -> c.addWine(100, 5));
    }

    /** "a number of bottles that were bought (0 to 60)" */
    private static void bottlesThatWereBought(Check check) {
        CellarClub x = new CellarClub();
        x.addWine(5, 0);
        x.addWine(5, 60);
        check.due("no bottles", x.wine(0, 1), 0);
        check.due("60 bottles", x.wine(1, 1), 60);
        check.refused("-1 bottles", Check.RANGE, Clubs::rich, c -> c.addWine(5, -1));
        check.refused("61 bottles", Check.RANGE, Clubs::rich, c -> c.addWine(5, 61));
    }

    /** "at first the reserve is all of them" */
    private static void reserveAtFirst(Check check) {
        CellarClub x = new CellarClub();
        x.addWine(5, 0);
        x.addWine(5, 1);
        x.addWine(5, 60);
        check.due("a reserve of none", x.wine(0, 2), 0);
        check.due("a reserve of one", x.wine(1, 2), 1);
        check.due("a reserve of 60", x.wine(2, 2), 60);
        check.due("all reserves", x.about(6), 61);
    }

    /** "A wine is open (at first), allocated or delivered." */
    private static void openAtFirst(Check check) {
        CellarClub x = new CellarClub();
        x.addWine(5, 0);
        check.due("open", x.wine(0, 3), 0);
        x.allocate(0);
        check.due("allocated", x.wine(0, 3), 1);
        x.deliver(0);
        check.due("delivered", x.wine(0, 3), 2);
        x.undo();
        check.due("allocated again", x.wine(0, 3), 1);
        x.undo();
        check.due("open again", x.wine(0, 3), 0);
    }

    /** "A member may have an order ... (0 to 60, at first 0)" */
    private static void orderAtFirst(Check check) {
        CellarClub x = new CellarClub();
        x.addMember(5);
        x.addWine(5, 5);
        x.addMember(6);
        x.addWine(5, 5);
        for (int m = 0; m < 2; m++) {
            for (int w = 0; w < 2; w++) {
                check.due("order at first", x.has(m, w, 0), 0);
            }
        }
        check.due("the first order replaces none", x.order(1, 1, 60), 0);
        check.due("the greatest order, above the reserve", x.has(1, 1, 0), 60);
        check.due("the least order", x.order(1, 1, 0), 60);
        check.due("no order again", x.has(1, 1, 0), 0);
    }

    /** "an order for bottles of an open wine" */
    private static void orderOfAnOpenWine(Check check) {
        check.refused("an order of an allocated wine", Check.STATE, Clubs::rich, c -> c.order(0, 2, 1));
        check.refused("an order of a delivered wine", Check.STATE, Clubs::rich, c -> c.order(0, 0, 1));
        check.refused("no order of a delivered wine", Check.STATE, Clubs::rich, c -> c.order(0, 0, 0));
        check.due("an order of an open wine", Clubs.rich().order(1, 1, 0), 5);
    }

    /** Allocates wine 0 of the text and looks at what each member got, and at what is left. */
    private static void shares(Check check, String text, int... want) {
        CellarClub x = Check.loaded(text);
        int bought = x.wine(0, 1);
        int sum = 0;
        for (int m = 0; m < want.length; m++) {
            check.due("member " + m + " would get of " + text, x.wouldGet(m, 0), want[m]);
            sum += want[m];
        }
        check.due("allocated of " + text, x.allocate(0), sum);
        for (int m = 0; m < want.length; m++) {
            check.due("member " + m + " got of " + text, x.has(m, 0, 1), want[m]);
        }
        check.due("reserve of " + text, x.wine(0, 2), bought - sum);
    }

    /** "each member has a claim: as many bottles as are ordered" */
    private static void claims(Check check) {
        shares(check, "Cm999m000w0160", 0, 0);
        shares(check, "Cm999m000w0160o1001", 0, 1);
        shares(check, "Cm999m000w0160o0060", 60, 0);
        shares(check, "Cm000w0160o0060", 60);
        shares(check, "Cm000w0159o0060", 59);
        shares(check, "Cm000m000m000m000m000m000w0160o0010o1010o2010o3010o4010o5010", 10, 10, 10, 10, 10, 10);
    }

    /** "each goes to the member who has got fewer than the claim" */
    private static void fewerThanTheClaim(Check check) {
        shares(check, "Cm999m000w0102o0001o1060", 1, 1);
        shares(check, "Cm999m000w0103o0002o1060", 2, 1);
        shares(check, "Cm999m000w0103o0003o1060", 3, 0);
        shares(check, "Cm999m000w0160o0059o1060", 59, 1);
    }

    /** "for whom (points + 1) / (bottles got so far + 1) is greatest (as an exact fraction)" */
    private static void exactFractions(Check check) {
        // 1000/3 is just more than 333/1, and less than 334/1; 999/3 is the same as 333/1.
        shares(check, "Cm332m999w0103o0002o1060", 0, 3);
        shares(check, "Cm333m999w0103o0002o1060", 1, 2);
        shares(check, "Cm332m998w0103o0002o1060", 1, 2);
        shares(check, "Cm998m332w0103o0060o1002", 3, 0);
        // No points count as one: 1/1 against 1000/60, 16/1 and 17/1 against 1000/59.
        shares(check, "Cm999m000w0160o0060o1060", 60, 0);
        shares(check, "Cm999m015w0160o0060o1060", 60, 0);
        shares(check, "Cm999m016w0160o0060o1060", 59, 1);
        shares(check, "Cm000m999w0160o0060o1060", 0, 60);
        // 2/1 and 2/2 against 1/1: the one that got a bottle already has less then.
        shares(check, "Cm000m001w0101o0002o1002", 0, 1);
        shares(check, "Cm000m001w0102o0002o1002", 1, 1);
        shares(check, "Cm000m001w0103o0002o1002", 1, 2);
    }

    /** "among several to the lowest one" */
    private static void tiesOfMembers(Check check) {
        shares(check, "Cm000m000w0101o0001o1001", 1, 0);
        shares(check, "Cm007m007m007w0102o0002o1002o2002", 1, 1, 0);
        shares(check, "Cm007m007m007w0104o0002o1002o2002", 2, 1, 1);
        shares(check, "Cm007m007m007w0105o0002o1002o2002", 2, 2, 1);
        shares(check, "Cm999m999m999m999m999m999w0101o4001o5001", 0, 0, 0, 0, 1, 0);
        shares(check, "Cm001m000w0102o0002o1002", 2, 0);
    }

    /** "until there are no bottles left, or all have what they claim" */
    private static void untilNoBottlesAreLeft(Check check) {
        shares(check, "Cm000m000w0100o0003o1002", 0, 0);
        shares(check, "Cm000m000w0101o0003o1002", 1, 0);
        shares(check, "Cm000m000w0104o0003o1002", 2, 2);
        shares(check, "Cm000m000w0105o0003o1002", 3, 2);
        shares(check, "Cm000m000w0106o0003o1002", 3, 2);
        shares(check, "Cm000m000w0105", 0, 0);
        shares(check, "Cw0105");
        shares(check, "Cm000m000m000m000m000m000w0160o0060o1060o2060o3060o4060o5060", 10, 10, 10, 10, 10, 10);
    }

    /** "What a member got is allocated to this member and no longer in the reserve." */
    private static void noLongerInTheReserve(Check check) {
        CellarClub x = Check.loaded("Cm000w0160w0105o0060");
        x.allocate(0);
        check.due("the reserve is empty", x.wine(0, 2), 0);
        check.due("60 are allocated", x.wine(0, 7), 60);
        check.due("60 to the member", x.has(0, 0, 1), 60);
        check.due("none in the cellar", x.has(0, 0, 2), 0);
        check.due("the reserve of the other wine", x.wine(1, 2), 5);
    }

    /** Has one member take bottles of one wine, and looks at the pence that are owed at once and in all. */
    private static void owes(Check check, int price, int bottles, int atOnce, int inAll) {
        CellarClub x = Check.loaded("Cm000" + THREE_GREAT_BINS);
        x.addWine(price, 60);
        x.order(0, 0, bottles);
        x.allocate(0);
        check.due(bottles + " bottles at " + price + ", owed at once", x.member(0, 1), atOnce);
        x.pay(0);
        x.deliver(0);
        check.due(bottles + " bottles at " + price + ", owed then", x.member(0, 1), inAll - atOnce);
    }

    /** "The member owes half of the price of these bottles together, rounded up, at once" */
    private static void halfOfThePrice(Check check) {
        owes(check, 99, 0, 0, 0);
        owes(check, 1, 1, 1, 1);
        owes(check, 2, 1, 1, 2);
        owes(check, 1, 2, 1, 2);
        owes(check, 1, 3, 2, 3);
        owes(check, 5, 3, 8, 15);
        owes(check, 99, 1, 50, 99);
        owes(check, 99, 59, 2921, 5841);
        owes(check, 99, 60, 2970, 5940);
    }

    /** "Each member owes the rest of the price then." */
    private static void restOfThePrice(Check check) {
        CellarClub x = Check.loaded("Cm000m000m000w0160b24o0001o1002");
        x.allocate(0);
        x.deliver(0);
        check.due("one at 1, half rounded up before", x.member(0, 1), 1);
        check.due("two at 1", x.member(1, 1), 2);
        check.due("none", x.member(2, 1), 0);
    }

    private static void grows(Check check, int points, int bottles, int want) {
        CellarClub x = new CellarClub();
        x.addMember(points);
        x.addWine(1, 60);
        x.order(0, 0, bottles);
        x.allocate(0);
        check.due(points + " points and " + bottles + " bottles", x.member(0, 0), want);
    }

    /** "the points of the member grow by the bottles got (to 999 at most)" */
    private static void pointsTo999(Check check) {
        grows(check, 0, 0, 0);
        grows(check, 0, 1, 1);
        grows(check, 0, 60, 60);
        grows(check, 938, 60, 998);
        grows(check, 939, 60, 999);
        grows(check, 940, 60, 999);
        grows(check, 997, 1, 998);
        grows(check, 998, 1, 999);
        grows(check, 999, 1, 999);
        grows(check, 999, 60, 999);
        grows(check, 999, 0, 999);
    }

    /** "orders for this wine become 0" */
    private static void ordersBecomeNone(Check check) {
        CellarClub x = Check.loaded("Cm000m000w0101w0100o0060o1060o0107o1160");
        x.allocate(0);
        check.due("the order of one who got a bottle", x.has(0, 0, 0), 0);
        check.due("the order of one who got none", x.has(1, 0, 0), 0);
        check.due("all orders", x.wine(0, 8), 0);
        check.due("orders for the other wine", x.wine(1, 8), 67);
    }

    /** "There are at most 8 bins, numbered from 0 in the order in which they were added" */
    private static void eightBins(Check check) {
        CellarClub x = new CellarClub();
        check.thrown("no bin yet", Check.NO_SUCH, () -> x.bin(0, 0));
        for (int b = 0; b < 8; b++) {
            check.due("number of a bin", x.addBin(10 + b), b);
            int next = b + 1;
            check.thrown("bin " + next + " is not there yet", Check.NO_SUCH, () -> x.bin(next, 0));
        }
        for (int b = 0; b < 8; b++) {
            check.due("size of bin " + b, x.bin(b, 0), 10 + b);
        }
        check.thrown("a ninth bin", Check.STATE, () -> x.addBin(1));
        check.due("eight bins", x.about(2), 8);
        check.thrown("a ninth bin is not there", Check.NO_SUCH, () -> x.bin(8, 0));
    }

    /** "each with a size from 1 to 24 bottles" */
    private static void sizeOfABin(Check check) {
        CellarClub x = new CellarClub();
        x.addBin(1);
        x.addBin(24);
        check.due("the least size", x.bin(0, 0), 1);
        check.due("the greatest size", x.bin(1, 0), 24);
        check.refused("size 0", Check.RANGE, Clubs::rich, c -> c.addBin(0));
        check.refused("size 25", Check.RANGE, Clubs::rich, c -> c.addBin(25));
    }

    /** "A bin is empty, or has bottles of one wine." */
    private static void emptyOrOneWine(Check check) {
        CellarClub x = Check.loaded("Cm000w0101w0102b02b01o0001o0101");
        check.due("an empty bin has no wine", x.bin(0, 1), NONE);
        x.allocate(0);
        x.allocate(1);
        x.deliver(0);
        check.due("a bottle of wine 0", x.bin(1, 1), 0);
        x.deliver(1);
        check.due("a bottle of wine 1", x.bin(0, 1), 1);
        check.thrown("another wine", Check.STATE, () -> x.move(1, 0, 1));
        x.drink(0, 1, 1);
        check.due("an emptied bin has no wine", x.bin(0, 1), NONE);
        check.due("and takes any", x.move(1, 0, 1), 1);
        check.due("its new wine", x.bin(0, 1), 0);
        check.due("the wine of the bin that it left", x.bin(1, 1), NONE);
    }

    /** Six bottles of wine 0, three in bin 0, two in bin 1, one in bin 2 of size 9; a reserve of 54. */
    private static CellarClub threeTwoOne(String bins) {
        CellarClub x = Check.loaded("Cm000w0160" + bins + "o0006");
        x.allocate(0);
        x.deliver(0);
        x.move(2, 0, 3);
        x.move(2, 1, 2);
        return x;
    }

    /** Finds one of the six bottles corked, which was the one in bin 2. */
    private static void replaced(Check check, String bins, int... want) {
        CellarClub x = threeTwoOne(bins);
        x.cork(0, 0);
        check.bins("a bottle is laid into " + bins, x, want);
    }

    /** "they go into bins that have this wine and room, first into those with the least room left" */
    private static void leastRoomFirst(Check check) {
        replaced(check, "b05b03b09", 3, 3, 0);
        replaced(check, "b04b05b09", 4, 2, 0);
        replaced(check, "b05b03b09b01", 3, 3, 0, 0);
        CellarClub x = Check.loaded("Cm000w0160b02b09o0004");
        x.allocate(0);
        x.deliver(0);
        x.move(1, 0, 1);
        check.bins("one and three", x, 1, 3);
        x.cork(0, 0);
        check.bins("a bin with the wine comes before an empty one", x, 0, 4);
    }

    /** "among several into the lowest one" */
    private static void amongSeveralWithTheWine(Check check) {
        replaced(check, "b05b04b09", 4, 2, 0);
        replaced(check, "b04b03b09", 4, 2, 0);
    }

    /** "bins that have this wine and room" */
    private static void fullBinsHaveNoRoom(Check check) {
        replaced(check, "b03b04b09", 3, 3, 0);
        replaced(check, "b04b02b09", 4, 2, 0);
        replaced(check, "b03b02b09", 3, 2, 1);
        replaced(check, "b03b02b09b05", 3, 2, 0, 1);
        replaced(check, "b03b02b09b09", 3, 2, 1, 0);
        replaced(check, "b03b02b09b24", 3, 2, 1, 0);
    }

    /** "bins that have this wine": neither a lower nor a higher one, though with less room left in another's bin */
    private static void noBinsOfAnotherWine(Check check) {
        CellarClub x = Check.loaded("Cm000w0160w0160b10b07o0009o0106");
        x.allocate(0);
        x.deliver(0);
        x.allocate(1);
        x.deliver(1);
        check.bins("room for one of each wine", x, 9, 6);
        x.cork(0, 0);
        check.bins("wine 0 into its bin", x, 9, 6);
        x.cork(0, 1);
        check.bins("wine 1 into its bin", x, 9, 6);
        check.due("the wine of bin 0", x.bin(0, 1), 0);
        check.due("the wine of bin 1", x.bin(1, 1), 1);
    }

    /** "bins that have this wine", also with a single bottle of it */
    private static void aBinWithOneBottle(Check check) {
        CellarClub x = Check.loaded("Cm000w0160b03b04b05o0005");
        x.allocate(0);
        x.deliver(0);
        x.move(2, 0, 3);
        x.move(2, 1, 1);
        check.bins("a full bin and two with one bottle", x, 3, 1, 1);
        x.cork(0, 0);
        check.bins("into the bin with one bottle", x, 3, 2, 0);
    }

    private static void laid(Check check, String bins, int n, int... want) {
        CellarClub x = Check.loaded("Cm000w0160" + bins);
        x.order(0, 0, n);
        x.allocate(0);
        check.due(n + " into " + bins, x.deliver(0), n);
        check.bins(n + " into " + bins, x, want);
    }

    /** "the others go into empty bins, first into the smallest one that has room for all that are left" */
    private static void smallestWithRoomForAll(Check check) {
        laid(check, "b05b04b06b03", 1, 0, 0, 0, 1);
        laid(check, "b05b04b06b03", 3, 0, 0, 0, 3);
        laid(check, "b05b04b06b03", 4, 0, 4, 0, 0);
        laid(check, "b05b04b06b03", 5, 5, 0, 0, 0);
        laid(check, "b05b04b06b03", 6, 0, 0, 6, 0);
        laid(check, "b24b01", 1, 0, 1);
        laid(check, "b01b24", 24, 0, 24);
        laid(check, "b24", 24, 24);
        laid(check, "b24", 0, 0);
    }

    /** "among several of a size the lowest one", where there is room for all */
    private static void smallestAmongSeveral(Check check) {
        laid(check, "b05b04b04", 4, 0, 4, 0);
        laid(check, "b05b04b04", 3, 0, 3, 0);
        laid(check, "b05b04b05", 5, 5, 0, 0);
        laid(check, "b01b01b01b01b01b01b01b01", 1, 1, 0, 0, 0, 0, 0, 0, 0);
    }

    /** "or, if there is none, into the greatest one" */
    private static void greatestIfThereIsNone(Check check) {
        laid(check, "b04b05b03", 6, 0, 5, 1);
        laid(check, "b04b05b03", 8, 0, 5, 3);
        laid(check, "b04b05b03", 9, 4, 5, 0);
        laid(check, "b24b01", 25, 24, 1);
        laid(check, "b01b24", 25, 1, 24);
    }

    /** "among several of a size the lowest one", where there is no room for all */
    private static void greatestAmongSeveral(Check check) {
        laid(check, "b03b05b05", 6, 1, 5, 0);
        laid(check, "b03b05b05", 9, 0, 5, 4);
        laid(check, "b03b05b05", 10, 0, 5, 5);
        laid(check, "b01b01b01b01b01b01b01b01", 7, 1, 1, 1, 1, 1, 1, 1, 0);
    }

    /** "and so on" */
    private static void andSoOn(Check check) {
        laid(check, "b04b05b03", 10, 4, 5, 1);
        laid(check, "b04b05b03", 12, 4, 5, 3);
        laid(check, "b01b01b01b01b01b01b01b01", 8, 1, 1, 1, 1, 1, 1, 1, 1);
        laid(check, "b07b08b07b08b08b07b07b08", 60, 7, 8, 7, 8, 8, 7, 7, 8);
        laid(check, "b07b08b07b08b08b07b07b08", 59, 7, 8, 7, 8, 8, 7, 6, 8);
    }

    private static void drunk(Check check, CellarClub x, int n, int... want) {
        x.drink(0, 0, n);
        check.bins(n + " are drunk", x, want);
    }

    /** "they are taken from the bins with this wine, first from those with the fewest bottles" */
    private static void fewestBottlesFirst(Check check) {
        drunk(check, threeTwoOne("b10b10b09"), 1, 3, 2, 0);
        drunk(check, threeTwoOne("b10b02b09"), 2, 3, 1, 0);
        drunk(check, threeTwoOne("b03b10b09"), 3, 3, 0, 0);
        drunk(check, threeTwoOne("b10b10b09"), 4, 2, 0, 0);
        drunk(check, threeTwoOne("b10b10b09"), 6, 0, 0, 0);
        CellarClub x = threeTwoOne("b10b10b09");
        x.move(0, 2, 3);
        check.bins("the other way round", x, 0, 2, 4);
        drunk(check, x, 1, 0, 1, 4);
        drunk(check, x, 2, 0, 0, 3);
    }

    /** "among several from the highest one" */
    private static void amongSeveralFromTheHighest(Check check) {
        CellarClub x = Check.loaded("Cm000w0160b02b02b02o0006");
        x.allocate(0);
        x.deliver(0);
        drunk(check, x, 1, 2, 2, 1);
        x.undo();
        drunk(check, x, 2, 2, 2, 0);
        x.undo();
        drunk(check, x, 3, 2, 1, 0);
        x.undo();
        drunk(check, x, 5, 1, 0, 0);
        x.undo();
        drunk(check, x, 6, 0, 0, 0);
    }

    /** "they are taken from the bins with this wine" */
    private static void onlyBinsWithThisWine(Check check) {
        CellarClub x = Check.loaded("Cm000w0160w0160b01b09b01o0001o0109");
        x.allocate(0);
        x.deliver(0);
        x.allocate(1);
        x.deliver(1);
        check.bins("one of wine 0, nine of wine 1", x, 1, 9, 0);
        x.drink(0, 1, 9);
        check.bins("the bottle of wine 0 stays", x, 1, 0, 0);
        x.undo();
        x.cork(0, 1);
        check.bins("the replacement is of wine 1", x, 1, 9, 0);
        x.drink(0, 0, 1);
        check.bins("the bottles of wine 1 stay", x, 0, 9, 0);
    }

    /** "all bottles that are allocated to members are laid into bins, all of them together" */
    private static void allOfThemTogether(Check check) {
        CellarClub x = Check.loaded("Cm000m000w0160b03b05b02o0002o1003");
        x.allocate(0);
        check.due("two and three", x.deliver(0), 5);
        check.bins("two and three together", x, 0, 5, 0);
    }

    /** "From then on these bottles are in the cellar and belong to their members" */
    private static void fromThenOnInTheCellar(Check check) {
        check.refused("drinking before the delivery", Check.STATE, Clubs::rich, c -> c.drink(1, 2, 1));
        check.refused("giving before the delivery", Check.STATE, Clubs::rich, c -> c.give(1, 0, 2, 1));
        check.refused("a cork before the delivery", Check.STATE, Clubs::rich, c -> c.cork(1, 2));
        CellarClub x = Clubs.rich();
        check.due("delivery", x.deliver(2), 4);
        check.due("drinking after the delivery", x.drink(1, 2, 1), 3);
        check.due("giving after the delivery", x.give(1, 0, 2, 1), 1);
        check.due("a cork after the delivery", x.cork(1, 2), 1);
    }

    /** "who can drink them (they are taken from the cellar)" */
    private static void drinkingTakesFromTheCellar(Check check) {
        CellarClub x = Clubs.brimful();
        check.due("the cellar is full", x.about(9), 0);
        check.due("all of a member's", x.drink(0, 0, 8), 0);
        check.due("the cellar", x.about(3), 184);
        check.due("room", x.about(9), 8);
        check.due("drunk", x.about(4), 8);
    }

    /** "give them to other members (they stay where they are)" */
    private static void givingLeavesThemThere(Check check) {
        CellarClub x = Clubs.brimful();
        for (int m = 1; m < 6; m++) {
            check.due("all that a member has", x.give(m, 0, 3, 8), 8 + 8 * m);
        }
        check.due("all 48 of the wine", x.has(0, 3, 2), 48);
        check.bins("all bins", x, 24, 24, 24, 24, 24, 24, 24, 24);
        check.due("all back", x.give(0, 5, 3, 48), 48);
    }

    /** "A corked bottle goes (it is taken from the cellar)." */
    private static void aCorkedBottleGoes(Check check) {
        CellarClub x = Check.loaded("Cm000w0101b01o0001");
        x.allocate(0);
        x.deliver(0);
        check.due("the only bottle", x.cork(0, 0), 0);
        check.due("the cellar is empty", x.about(3), 0);
        check.due("the bin is empty", x.bin(0, 1), NONE);
        check.thrown("no bottle is left", Check.STATE, () -> x.cork(0, 0));
    }

    /** "If the reserve of the wine has a bottle ...; otherwise the member owes the price of a bottle less." */
    private static void theLastOfTheReserve(Check check) {
        CellarClub x = Check.loaded("Cm000m000w9903w0160b03o0001o1001");
        x.allocate(0);
        x.deliver(0);
        check.due("the last of the reserve", x.cork(0, 0), 1);
        check.due("the reserve is empty", x.wine(0, 2), 0);
        check.due("owed as before", x.member(0, 1), 99);
        check.due("belongs to the member", x.has(0, 0, 2), 1);
        check.due("no reserve of this wine", x.cork(0, 0), 0);
        check.due("owed less", x.member(0, 1), 0);
        check.due("one bottle less", x.has(0, 0, 2), 0);
        check.due("the other member's stays", x.has(1, 0, 2), 1);
        check.due("the reserve of the other wine", x.wine(1, 2), 60);
    }

    /** "one of the reserve is laid into the cellar, by the same rules, in its place and belongs to the member" */
    private static void inItsPlace(Check check) {
        CellarClub x = new CellarClub();
        x.addMember(0);
        x.addWine(1, 60);
        x.addBin(24);
        x.order(0, 0, 24);
        x.allocate(0);
        x.deliver(0);
        for (int left = 35; left >= 0; left--) {
            check.due("replaced", x.cork(0, 0), 1);
            check.due("the reserve", x.wine(0, 2), left);
            check.due("the full bin is full again", x.bin(0, 2), 24);
        }
        check.due("corked", x.about(5), 36);
        check.due("not replaced", x.cork(0, 0), 0);
        check.due("the bin is no longer full", x.bin(0, 2), 23);
    }

    /** "What is owed may become less than 0." */
    private static void lessThanNothing(Check check) {
        CellarClub x = Check.loaded("Cm000m000w9902b02o0001o1001");
        x.allocate(0);
        x.deliver(0);
        x.pay(0);
        x.cork(0, 0);
        check.due("less than 0", x.member(0, 1), -99);
        check.due("all together", x.about(7), 0);
        x.pay(1);
        check.due("all together less than 0", x.about(7), -99);
        check.due("the member gets it", x.pay(0), -99);
        check.due("nothing is owed", x.about(7), 0);
    }
}
