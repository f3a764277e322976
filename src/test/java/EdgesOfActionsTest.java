/** Promises 11 to 22: one test for each sentence that names a boundary. */
public final class EdgesOfActionsTest {
    private static final int NONE = CellarClub.NONE;
    private static final int LEAST = Integer.MIN_VALUE;
    private static final int MOST = Integer.MAX_VALUE;
    private static final int[] FAR = {LEAST, -99999, -1, 6, 8, MOST};

    public static void main(String[] args) {
        Check check = new Check();
        pointsOfANewMember(check);
        aSeventhMember(check);
        priceAndBottlesOfANewWine(check);
        aSeventhWine(check);
        sizeOfANewBin(check);
        aNinthBin(check);
        orderOfNobody(check);
        orderOutOfRange(check);
        orderOfAWineThatIsNotOpen(check);
        previousOrder(check);
        allocationOfNoWine(check);
        allocationOfAWineThatIsNotOpen(check);
        howManyAreAllocated(check);
        deliveryOfNoWine(check);
        deliveryOfAWineThatIsNotAllocated(check);
        deliveryWithoutRoom(check);
        deliveryOfNothing(check);
        drinkOfNobody(check);
        drinkOutOfRange(check);
        drinkOfMoreThanThereIs(check);
        drinkToTheLast(check);
        giftOfNobody(check);
        giftOutOfRange(check);
        giftOfMoreThanThereIs(check);
        giftToTheLast(check);
        corkOfNobody(check);
        corkOfNone(check);
        corkToTheLast(check);
        moveOfNoBin(check);
        moveOutOfRange(check);
        moveOfMoreThanThereIs(check);
        moveToAnotherWine(check);
        moveWithoutRoom(check);
        moveToTheLast(check);
        payOfNobody(check);
        payAll(check);
        undoOfNothing(check);
        alsoIfNothingBecomesDifferent(check);
        undoIsNone(check);
        atMost14(check);
        theOldestOneIsForgotten(check);
        everyActionIsRemembered(check);
        refusedCallsAreNotRemembered(check);
        check.end();
    }

    /** Promise 11: "points: 0 to 999"; "Throws IllegalArgumentException if points is out of range" */
    private static void pointsOfANewMember(Check check) {
        check.due("the first member, 0 points", new CellarClub().addMember(0), 0);
        check.due("the first member, 999 points", new CellarClub().addMember(999), 0);
        for (int points : new int[] {LEAST, -1, 1000, MOST}) {
            check.refused(points + " points", Check.RANGE, Clubs::rich, x -> x.addMember(points));
            check.refused(points + " points in an empty club", Check.RANGE, Clubs::empty, x -> x.addMember(points));
        }
    }

    private static CellarClub fiveMembers() {
        return Check.loaded("Cm001m002m003m004m005");
    }

    /** "Throws IllegalStateException if there are 6 members" */
    private static void aSeventhMember(Check check) {
        check.due("a sixth member", fiveMembers().addMember(6), 5);
        check.refused("a seventh member", Check.STATE, Clubs::crowded, x -> x.addMember(0));
        check.refused("a seventh member, 999", Check.STATE, Clubs::crowded, x -> x.addMember(999));
        check.refused("a seventh member, -1", Check.RANGE, Clubs::crowded, x -> x.addMember(-1));
        check.refused("a seventh member, 1000", Check.RANGE, Clubs::crowded, x -> x.addMember(1000));
        CellarClub x = Clubs.crowded();
        for (int i = 0; i < 14; i++) {
            x.undo();
        }
        check.due("as many as were added first", x.about(0), 3);
        check.due("room for members again", x.addMember(0), 3);
    }

    /** Promise 12: "Throws IllegalArgumentException if price or bottles is out of range" */
    private static void priceAndBottlesOfANewWine(Check check) {
        check.due("1 penny, no bottle", new CellarClub().addWine(1, 0), 0);
        check.due("99 pence, 60 bottles", new CellarClub().addWine(99, 60), 0);
        for (int price : new int[] {LEAST, -1, 0, 100, MOST}) {
            check.refused("price " + price, Check.RANGE, Clubs::rich, x -> x.addWine(price, 0));
        }
        for (int bottles : new int[] {LEAST, -1, 61, MOST}) {
            check.refused("bottles " + bottles, Check.RANGE, Clubs::rich, x -> x.addWine(1, bottles));
        }
        check.refused("both", Check.RANGE, Clubs::rich, x -> x.addWine(0, 61));
    }

    /** "Throws IllegalStateException if there are 6 wines" */
    private static void aSeventhWine(Check check) {
        check.due("a sixth wine", Check.loaded("Cw0100w0200w0300w0400w0500").addWine(1, 0), 5);
        check.refused("a seventh wine", Check.STATE, Clubs::crowded, x -> x.addWine(1, 0));
        check.refused("a seventh wine, 99 and 60", Check.STATE, Clubs::crowded, x -> x.addWine(99, 60));
        check.refused("a seventh wine, price 0", Check.RANGE, Clubs::crowded, x -> x.addWine(0, 60));
        check.refused("a seventh wine, bottles 61", Check.RANGE, Clubs::crowded, x -> x.addWine(99, 61));
    }

    /** Promise 13: "Throws IllegalArgumentException if size is out of range" */
    private static void sizeOfANewBin(Check check) {
        check.due("size 1", new CellarClub().addBin(1), 0);
        check.due("size 24", new CellarClub().addBin(24), 0);
        for (int size : new int[] {LEAST, -1, 0, 25, MOST}) {
            check.refused("size " + size, Check.RANGE, Clubs::rich, x -> x.addBin(size));
        }
    }

    /** "Throws IllegalStateException if there are 8 bins" */
    private static void aNinthBin(Check check) {
        check.due("an eighth bin", Check.loaded("Cb01b02b03b04b05b06b07").addBin(24), 7);
        check.refused("a ninth bin", Check.STATE, Clubs::crowded, x -> x.addBin(1));
        check.refused("a ninth bin of 24", Check.STATE, Clubs::crowded, x -> x.addBin(24));
        check.refused("a ninth bin of 0", Check.RANGE, Clubs::crowded, x -> x.addBin(0));
        check.refused("a ninth bin of 25", Check.RANGE, Clubs::crowded, x -> x.addBin(25));
    }

    /** Promise 14: "Throws IndexOutOfBoundsException if there is no such member or wine" */
    private static void orderOfNobody(Check check) {
        check.refused("order in an empty club", Check.NO_SUCH, Clubs::empty, x -> x.order(0, 0, 0));
        check.refused("order of member 2 of 2", Check.NO_SUCH, Clubs::rich, x -> x.order(2, 1, 1));
        check.refused("order of wine 3 of 3", Check.NO_SUCH, Clubs::rich, x -> x.order(1, 3, 1));
        check.refused("order without wines", Check.NO_SUCH, () -> fiveMembers(), x -> x.order(0, 0, 1));
        check.refused("order without members", Check.NO_SUCH, () -> Check.loaded("Cw0101"), x -> x.order(0, 0, 1));
        check.refused("order of member 6 of 6", Check.NO_SUCH, Clubs::crowded, x -> x.order(6, 5, 1));
        check.refused("order of wine 6 of 6", Check.NO_SUCH, Clubs::crowded, x -> x.order(5, 6, 1));
        check.refused("no member, out of range", Check.NO_SUCH, Clubs::rich, x -> x.order(2, 1, 61));
        check.refused("no wine, out of range", Check.NO_SUCH, Clubs::rich, x -> x.order(0, 3, -1));
        check.refused("no member, not open", Check.NO_SUCH, Clubs::rich, x -> x.order(2, 0, 1));
        for (int far : FAR) {
            check.refused("order of member " + far, Check.NO_SUCH, Clubs::rich, x -> x.order(far, 1, 1));
            check.refused("order of wine " + far, Check.NO_SUCH, Clubs::rich, x -> x.order(1, far, 1));
        }
        check.due("order of the last of all", Clubs.crowded().order(5, 5, 60), 0);
    }

    /** "n: 0 to 60"; "Throws IllegalArgumentException if n is out of range" */
    private static void orderOutOfRange(Check check) {
        for (int n : new int[] {LEAST, -1, 61, MOST}) {
            check.refused("order of " + n, Check.RANGE, Clubs::rich, x -> x.order(1, 1, n));
            check.refused("order of " + n + ", allocated", Check.RANGE, Clubs::rich, x -> x.order(1, 2, n));
            check.refused("order of " + n + ", delivered", Check.RANGE, Clubs::rich, x -> x.order(1, 0, n));
        }
        CellarClub x = Clubs.rich();
        check.due("order of 0", x.order(1, 1, 0), 5);
        check.due("order of 60", x.order(1, 1, 60), 0);
        check.due("the order", x.has(1, 1, 0), 60);
    }

    /** "Throws IllegalStateException if the wine is not open" */
    private static void orderOfAWineThatIsNotOpen(Check check) {
        check.refused("order of an allocated wine", Check.STATE, Clubs::rich, x -> x.order(1, 2, 0));
        check.refused("order of a delivered wine", Check.STATE, Clubs::rich, x -> x.order(0, 0, 60));
        CellarClub x = Clubs.rich();
        x.undo();
        check.due("open again, with its order", x.order(1, 2, 0), 4);
    }

    /** "Returns the previous order." */
    private static void previousOrder(Check check) {
        CellarClub x = Clubs.crowded();
        check.due("none before", x.order(0, 0, 60), 0);
        check.due("60 before", x.order(0, 0, 60), 60);
        check.due("the same before", x.order(0, 0, 0), 60);
        check.due("0 before", x.order(0, 0, 0), 0);
    }

    /** Promise 15: "Throws IndexOutOfBoundsException if there is no such wine" */
    private static void allocationOfNoWine(Check check) {
        check.refused("allocation in an empty club", Check.NO_SUCH, Clubs::empty, x -> x.allocate(0));
        check.refused("allocation of wine 3 of 3", Check.NO_SUCH, Clubs::rich, x -> x.allocate(3));
        check.refused("allocation of wine 6 of 6", Check.NO_SUCH, Clubs::crowded, x -> x.allocate(6));
        for (int far : FAR) {
            check.refused("allocation of wine " + far, Check.NO_SUCH, Clubs::rich, x -> x.allocate(far));
        }
        check.due("allocation of the last wine", Clubs.crowded().allocate(5), 0);
    }

    /** "Throws IllegalStateException if it is not open" */
    private static void allocationOfAWineThatIsNotOpen(Check check) {
        check.refused("allocation of an allocated wine", Check.STATE, Clubs::rich, x -> x.allocate(2));
        check.refused("allocation of a delivered wine", Check.STATE, Clubs::rich, x -> x.allocate(0));
        check.due("allocation of an open wine", Clubs.rich().allocate(1), 5);
    }

    /** "Returns how many bottles are allocated." */
    private static void howManyAreAllocated(Check check) {
        check.due("no orders", Check.loaded("Cm000w0160").allocate(0), 0);
        check.due("no bottles", Check.loaded("Cm000w0100o0060").allocate(0), 0);
        check.due("no members", Check.loaded("Cw0160").allocate(0), 0);
        check.due("one of one", Check.loaded("Cm000w0101o0060").allocate(0), 1);
        check.due("all 60", Check.loaded("Cm000m000w0160o0060o1060").allocate(0), 60);
        check.due("59 of 60", Check.loaded("Cm000m000w0160o0030o1029").allocate(0), 59);
    }

    /** Promise 16: "Throws IndexOutOfBoundsException if there is no such wine" */
    private static void deliveryOfNoWine(Check check) {
        check.refused("delivery in an empty club", Check.NO_SUCH, Clubs::empty, x -> x.deliver(0));
        check.refused("delivery of wine 3 of 3", Check.NO_SUCH, Clubs::rich, x -> x.deliver(3));
        check.refused("delivery of wine 6 of 6", Check.NO_SUCH, Clubs::crowded, x -> x.deliver(6));
        for (int far : FAR) {
            check.refused("delivery of wine " + far, Check.NO_SUCH, Clubs::rich, x -> x.deliver(far));
        }
    }

    /** "Throws IllegalStateException if it is not allocated" */
    private static void deliveryOfAWineThatIsNotAllocated(Check check) {
        check.refused("delivery of an open wine", Check.STATE, Clubs::rich, x -> x.deliver(1));
        check.refused("delivery of a delivered wine", Check.STATE, Clubs::rich, x -> x.deliver(0));
        check.due("delivery of an allocated wine", Clubs.rich().deliver(2), 4);
    }

    private static CellarClub allocated(String bins, int n) {
        CellarClub x = Check.loaded("Cm000w0160w0160" + bins + "o0101");
        x.order(0, 0, n);
        x.allocate(0);
        return x;
    }

    /** "or the bins do not have room for its bottles" */
    private static void deliveryWithoutRoom(Check check) {
        check.refused("no bins", Check.STATE, () -> allocated("", 1), x -> x.deliver(0));
        check.refused("two into one", Check.STATE, () -> allocated("b01", 2), x -> x.deliver(0));
        check.due("one into one", allocated("b01", 1).deliver(0), 1);
        check.refused("25 into 24", Check.STATE, () -> allocated("b24", 25), x -> x.deliver(0));
        check.due("24 into 24", allocated("b24", 24).deliver(0), 24);
        check.refused("60 into 59", Check.STATE, () -> allocated("b24b24b11", 60), x -> x.deliver(0));
        check.due("60 into 60", allocated("b24b24b12", 60).deliver(0), 60);
        check.refused("room beside another wine", Check.STATE, () -> besideAnother(2), x -> x.deliver(0));
        check.due("room beside another wine, one less", besideAnother(1).deliver(0), 1);
        CellarClub full = Clubs.brimful();
        full.order(0, 4, 1);
        full.allocate(4);
        check.thrown("no bin is left", Check.STATE, () -> full.deliver(4));
        full.drink(0, 3, 1);
        check.thrown("a bin with another wine has room", Check.STATE, () -> full.deliver(4));
        for (int m = 1; m < 4; m++) {
            full.drink(m, 3, 8);
        }
        check.due("a bin was emptied", full.deliver(4), 1);
    }

    /** A bottle of wine 1 lies in a bin of 24, an empty bin has room for one; n bottles of wine 0 are allocated. */
    private static CellarClub besideAnother(int n) {
        CellarClub x = allocated("b24", n);
        x.allocate(1);
        x.deliver(1);
        x.addBin(1);
        return x;
    }

    /** "Returns how many bottles come into the cellar." */
    private static void deliveryOfNothing(Check check) {
        CellarClub x = Check.loaded("Cm000w0160w0105");
        x.allocate(0);
        check.due("nothing, without bins", x.deliver(0), 0);
        check.due("delivered", x.wine(0, 3), 2);
        CellarClub full = Clubs.brimful();
        full.allocate(4);
        check.due("nothing into full bins", full.deliver(4), 0);
        check.due("a full cellar", full.about(3), 192);
    }

    /** Promise 17: "Throws IndexOutOfBoundsException if there is no such member or wine" */
    private static void drinkOfNobody(Check check) {
        check.refused("drinking in an empty club", Check.NO_SUCH, Clubs::empty, x -> x.drink(0, 0, 1));
        check.refused("member 2 of 2 drinks", Check.NO_SUCH, Clubs::rich, x -> x.drink(2, 0, 1));
        check.refused("wine 3 of 3 is drunk", Check.NO_SUCH, Clubs::rich, x -> x.drink(0, 3, 1));
        check.refused("member 6 of 6 drinks", Check.NO_SUCH, Clubs::crowded, x -> x.drink(6, 5, 1));
        check.refused("wine 6 of 6 is drunk", Check.NO_SUCH, Clubs::crowded, x -> x.drink(5, 6, 1));
        check.refused("no member drinks 0", Check.NO_SUCH, Clubs::rich, x -> x.drink(2, 0, 0));
        check.refused("61 of no wine", Check.NO_SUCH, Clubs::rich, x -> x.drink(0, 3, 61));
        for (int far : FAR) {
            check.refused("member " + far + " drinks", Check.NO_SUCH, Clubs::rich, x -> x.drink(far, 0, 1));
            check.refused("wine " + far + " is drunk", Check.NO_SUCH, Clubs::rich, x -> x.drink(0, far, 1));
        }
    }

    /** "n: 1 to 60"; "Throws IllegalArgumentException if n is out of range" */
    private static void drinkOutOfRange(Check check) {
        for (int n : new int[] {LEAST, -1, 0, 61, MOST}) {
            check.refused("drinking " + n, Check.RANGE, Clubs::rich, x -> x.drink(0, 0, n));
            check.refused("drinking " + n + " of none", Check.RANGE, Clubs::rich, x -> x.drink(0, 1, n));
        }
        check.refused("drinking 60 of eight", Check.STATE, Clubs::rich, x -> x.drink(0, 0, 60));
        CellarClub x = allocated("b24b24b12", 60);
        x.deliver(0);
        check.due("drinking 60 of 60", x.drink(0, 0, 60), 0);
        check.due("60 were drunk", x.member(0, 3), 60);
        check.bins("all are empty", x, 0, 0, 0);
        x.undo();
        check.due("drinking 1 of 60", x.drink(0, 0, 1), 59);
    }

    /** "Throws IllegalStateException if the member has not so many in the cellar" */
    private static void drinkOfMoreThanThereIs(Check check) {
        check.refused("nine of eight", Check.STATE, Clubs::rich, x -> x.drink(0, 0, 9));
        check.refused("three of two, with more of others", Check.STATE, Clubs::rich, x -> x.drink(1, 0, 3));
        check.refused("one of none", Check.STATE, Clubs::rich, x -> x.drink(0, 1, 1));
        check.refused("allocated ones", Check.STATE, Clubs::rich, x -> x.drink(1, 2, 1));
        check.due("eight of eight", Clubs.rich().drink(0, 0, 8), 0);
        check.due("two of two", Clubs.rich().drink(1, 0, 2), 0);
    }

    /** "Returns how many bottles of this wine the member has left in the cellar." */
    private static void drinkToTheLast(Check check) {
        CellarClub x = Clubs.rich();
        for (int left = 7; left >= 0; left--) {
            check.due("left", x.drink(0, 0, 1), left);
        }
        check.thrown("none is left", Check.STATE, () -> x.drink(0, 0, 1));
        check.due("the other member's", x.drink(1, 0, 1), 1);
        check.due("the other member's last", x.drink(1, 0, 1), 0);
        check.due("the cellar is empty", x.about(3), 0);
        check.due("all bins are empty", x.about(8), 4);
        check.due("all were drunk", x.about(4), 11);
    }

    /** Promise 18: "Throws IndexOutOfBoundsException if there is no such member or wine" */
    private static void giftOfNobody(Check check) {
        check.refused("a gift in an empty club", Check.NO_SUCH, Clubs::empty, x -> x.give(0, 0, 0, 1));
        check.refused("member 2 of 2 gives", Check.NO_SUCH, Clubs::rich, x -> x.give(2, 0, 0, 1));
        check.refused("a gift to member 2 of 2", Check.NO_SUCH, Clubs::rich, x -> x.give(0, 2, 0, 1));
        check.refused("a gift of wine 3 of 3", Check.NO_SUCH, Clubs::rich, x -> x.give(0, 1, 3, 1));
        check.refused("a gift to itself of wine 3", Check.NO_SUCH, Clubs::rich, x -> x.give(0, 0, 3, 1));
        check.refused("member 2 gives to itself", Check.NO_SUCH, Clubs::rich, x -> x.give(2, 2, 0, 1));
        check.refused("0 to member 2", Check.NO_SUCH, Clubs::rich, x -> x.give(0, 2, 0, 0));
        check.refused("nine of eight to member 2", Check.NO_SUCH, Clubs::rich, x -> x.give(0, 2, 0, 9));
        check.refused("member 6 of 6 gives", Check.NO_SUCH, Clubs::crowded, x -> x.give(6, 5, 5, 1));
        check.refused("a gift to member 6 of 6", Check.NO_SUCH, Clubs::crowded, x -> x.give(5, 6, 5, 1));
        check.refused("a gift of wine 6 of 6", Check.NO_SUCH, Clubs::crowded, x -> x.give(5, 4, 6, 1));
        for (int far : FAR) {
            check.refused("member " + far + " gives", Check.NO_SUCH, Clubs::rich, x -> x.give(far, 1, 0, 1));
            check.refused("a gift to member " + far, Check.NO_SUCH, Clubs::rich, x -> x.give(0, far, 0, 1));
            check.refused("a gift of wine " + far, Check.NO_SUCH, Clubs::rich, x -> x.give(0, 1, far, 1));
        }
    }

    /** "Throws IllegalArgumentException if m and other are the same, or n is out of range" */
    private static void giftOutOfRange(Check check) {
        check.refused("a gift to itself", Check.RANGE, Clubs::rich, x -> x.give(0, 0, 0, 1));
        check.refused("a gift of none to itself", Check.RANGE, Clubs::rich, x -> x.give(1, 1, 1, 1));
        check.refused("nine of eight to itself", Check.RANGE, Clubs::rich, x -> x.give(0, 0, 0, 9));
        for (int n : new int[] {LEAST, -1, 0, 61, MOST}) {
            check.refused("giving " + n, Check.RANGE, Clubs::rich, x -> x.give(0, 1, 0, n));
            check.refused("giving " + n + " of none", Check.RANGE, Clubs::rich, x -> x.give(0, 1, 1, n));
        }
        check.refused("giving 60 of eight", Check.STATE, Clubs::rich, x -> x.give(0, 1, 0, 60));
        CellarClub x = Check.loaded("Cm000m000w0160b24b24b12o0060");
        x.allocate(0);
        x.deliver(0);
        check.due("giving 60 of 60", x.give(0, 1, 0, 60), 60);
        check.due("giving 1 back", x.give(1, 0, 0, 1), 1);
    }

    /** "Throws IllegalStateException if the member has not so many in the cellar" */
    private static void giftOfMoreThanThereIs(Check check) {
        check.refused("nine of eight", Check.STATE, Clubs::rich, x -> x.give(0, 1, 0, 9));
        check.refused("three of two", Check.STATE, Clubs::rich, x -> x.give(1, 0, 0, 3));
        check.refused("one of none", Check.STATE, Clubs::rich, x -> x.give(0, 1, 1, 1));
        check.refused("allocated ones", Check.STATE, Clubs::rich, x -> x.give(1, 0, 2, 1));
        check.due("eight of eight", Clubs.rich().give(0, 1, 0, 8), 10);
    }

    /** "Returns how many bottles of this wine the other member has in the cellar then." */
    private static void giftToTheLast(Check check) {
        CellarClub x = Clubs.rich();
        for (int has = 3; has <= 10; has++) {
            check.due("the other has", x.give(0, 1, 0, 1), has);
        }
        check.thrown("none is left", Check.STATE, () -> x.give(0, 1, 0, 1));
        check.due("all back", x.give(1, 0, 0, 10), 10);
        check.bins("they stay where they are", x, 0, 0, 1, 9);
    }

    /** Promise 19: "Throws IndexOutOfBoundsException if there is no such member or wine" */
    private static void corkOfNobody(Check check) {
        check.refused("a cork in an empty club", Check.NO_SUCH, Clubs::empty, x -> x.cork(0, 0));
        check.refused("a cork of member 2 of 2", Check.NO_SUCH, Clubs::rich, x -> x.cork(2, 0));
        check.refused("a cork of wine 3 of 3", Check.NO_SUCH, Clubs::rich, x -> x.cork(0, 3));
        check.refused("a cork of member 6 of 6", Check.NO_SUCH, Clubs::crowded, x -> x.cork(6, 5));
        check.refused("a cork of wine 6 of 6", Check.NO_SUCH, Clubs::crowded, x -> x.cork(5, 6));
        for (int far : FAR) {
            check.refused("a cork of member " + far, Check.NO_SUCH, Clubs::rich, x -> x.cork(far, 0));
            check.refused("a cork of wine " + far, Check.NO_SUCH, Clubs::rich, x -> x.cork(0, far));
        }
    }

    /** "Throws IllegalStateException if the member has none in the cellar" */
    private static void corkOfNone(Check check) {
        check.refused("a cork of an open wine", Check.STATE, Clubs::rich, x -> x.cork(1, 1));
        check.refused("a cork of an allocated wine", Check.STATE, Clubs::rich, x -> x.cork(1, 2));
        check.refused("a cork of a wine that others have", Check.STATE, () -> lastsDrunk(), x -> x.cork(1, 0));
        check.due("a cork of one bottle", lastButOneDrunk().cork(1, 0), 1);
    }

    private static CellarClub lastButOneDrunk() {
        CellarClub x = Clubs.rich();
        x.drink(1, 0, 1);
        return x;
    }

    private static CellarClub lastsDrunk() {
        CellarClub x = lastButOneDrunk();
        x.drink(1, 0, 1);
        return x;
    }

    /** "Returns 1 if it is replaced from the reserve, 0 if the member owes less." */
    private static void corkToTheLast(Check check) {
        CellarClub x = Clubs.rich();
        check.due("the reserve has one bottle", x.cork(1, 0), 1);
        check.due("it has none then", x.wine(0, 2), 0);
        check.due("two bottles as before", x.has(1, 0, 2), 2);
        check.due("owes as before", x.member(1, 1), 6);
        check.due("not replaced", x.cork(1, 0), 0);
        check.due("owes a price less", x.member(1, 1), 1);
        check.due("the last one is not replaced", x.cork(1, 0), 0);
        check.due("owes less than 0", x.member(1, 1), -4);
        check.thrown("none is left", Check.STATE, () -> x.cork(1, 0));
        check.due("four corked ones", x.about(5), 4);
        check.bins("the bin of the fewest is empty", x, 0, 0, 0, 8);
    }

    /** Promise 20: "Throws IndexOutOfBoundsException if there is no such bin" */
    private static void moveOfNoBin(Check check) {
        check.refused("a move without bins", Check.NO_SUCH, Clubs::empty, x -> x.move(0, 1, 1));
        check.refused("a move from bin 4 of 4", Check.NO_SUCH, Clubs::rich, x -> x.move(4, 0, 1));
        check.refused("a move to bin 4 of 4", Check.NO_SUCH, Clubs::rich, x -> x.move(3, 4, 1));
        check.refused("a move from bin 4 to itself", Check.NO_SUCH, Clubs::rich, x -> x.move(4, 4, 1));
        check.refused("a move of 0 from bin 4", Check.NO_SUCH, Clubs::rich, x -> x.move(4, 0, 0));
        check.refused("a move of 25 to bin 4", Check.NO_SUCH, Clubs::rich, x -> x.move(0, 4, 25));
        check.refused("a move from bin 8 of 8", Check.NO_SUCH, Clubs::crowded, x -> x.move(8, 7, 1));
        check.refused("a move to bin 8 of 8", Check.NO_SUCH, Clubs::crowded, x -> x.move(7, 8, 1));
        for (int far : new int[] {LEAST, -99999, -1, 8, 9, MOST}) {
            check.refused("a move from bin " + far, Check.NO_SUCH, Clubs::rich, x -> x.move(far, 0, 1));
            check.refused("a move to bin " + far, Check.NO_SUCH, Clubs::rich, x -> x.move(3, far, 1));
        }
    }

    /** "Throws IllegalArgumentException if both are the same, or n is out of range" */
    private static void moveOutOfRange(Check check) {
        check.refused("a move to the same bin", Check.RANGE, Clubs::rich, x -> x.move(3, 3, 1));
        check.refused("a move of an empty bin to itself", Check.RANGE, Clubs::rich, x -> x.move(0, 0, 1));
        for (int n : new int[] {LEAST, -1, 0, 25, MOST}) {
            check.refused("a move of " + n, Check.RANGE, Clubs::rich, x -> x.move(3, 0, n));
            check.refused("a move of " + n + " of none", Check.RANGE, Clubs::rich, x -> x.move(0, 1, n));
        }
        check.refused("a move of 24 of nine", Check.STATE, Clubs::rich, x -> x.move(3, 0, 24));
        CellarClub x = allocated("b24b24", 24);
        x.deliver(0);
        check.due("a move of 24", x.move(0, 1, 24), 24);
        check.due("a move of 1", x.move(1, 0, 1), 1);
    }

    /** "Throws IllegalStateException if the bin has not so many bottles" */
    private static void moveOfMoreThanThereIs(Check check) {
        check.refused("two of one", Check.STATE, Clubs::rich, x -> x.move(2, 0, 2));
        check.due("one of one", Clubs.rich().move(2, 0, 1), 1);
        check.refused("one of none", Check.STATE, Clubs::rich, x -> x.move(0, 1, 1));
        check.refused("one of none to its old place", Check.STATE, Clubs::rich, x -> x.move(0, 2, 1));
    }

    private static CellarClub twoWines() {
        CellarClub x = Check.loaded("Cm000w0105w0105b05b24o0005o0105");
        x.allocate(0);
        x.deliver(0);
        x.allocate(1);
        x.deliver(1);
        return x;
    }

    /** "or the other one has another wine" */
    private static void moveToAnotherWine(Check check) {
        check.refused("a bin with another wine and room", Check.STATE, () -> twoWines(), x -> x.move(0, 1, 1));
        CellarClub x = twoWines();
        x.drink(0, 1, 4);
        check.thrown("one bottle of another wine", Check.STATE, () -> x.move(0, 1, 5));
        x.drink(0, 1, 1);
        check.due("emptied", x.move(0, 1, 5), 5);
        check.due("its wine", x.bin(1, 1), 0);
        check.due("the wine of the bin that was left", x.bin(0, 1), NONE);
    }

    /** "or not so much room" */
    private static void moveWithoutRoom(Check check) {
        check.refused("two into room for one", Check.STATE, Clubs::rich, x -> x.move(3, 2, 2));
        check.due("one into room for one", Clubs.rich().move(3, 2, 1), 2);
        check.refused("five into an empty four", Check.STATE, Clubs::rich, x -> x.move(3, 0, 5));
        check.due("four into an empty four", Clubs.rich().move(3, 0, 4), 4);
        check.refused("one into a full bin", Check.STATE, Clubs::rich, x -> x.move(2, 3, 1));
        CellarClub full = Clubs.brimful();
        check.thrown("one into a full bin of the wine", Check.STATE, () -> full.move(0, 1, 1));
        check.thrown("24 into a full bin of the wine", Check.STATE, () -> full.move(0, 1, 24));
    }

    /** "Returns how many bottles the other bin has then." */
    private static void moveToTheLast(Check check) {
        CellarClub x = Clubs.rich();
        for (int has = 1; has <= 6; has++) {
            check.due("the other bin has", x.move(3, 1, 1), has);
        }
        check.due("three are left", x.move(3, 0, 2), 2);
        check.due("one is left", x.bin(3, 2), 1);
        check.due("the last one", x.move(3, 2, 1), 2);
        check.bins("all", x, 2, 6, 2, 0);
        check.due("empty", x.bin(3, 1), NONE);
        check.due("the cellar stays", x.about(3), 10);
    }

    /** Promise 21: "Throws IndexOutOfBoundsException if there is no such member" */
    private static void payOfNobody(Check check) {
        check.refused("nobody pays", Check.NO_SUCH, Clubs::empty, x -> x.pay(0));
        check.refused("member 2 of 2 pays", Check.NO_SUCH, Clubs::rich, x -> x.pay(2));
        check.refused("member 6 of 6 pays", Check.NO_SUCH, Clubs::crowded, x -> x.pay(6));
        for (int far : FAR) {
            check.refused("member " + far + " pays", Check.NO_SUCH, Clubs::rich, x -> x.pay(far));
        }
    }

    /** "A member pays all that is owed (or gets it, if it is less than 0)." */
    private static void payAll(Check check) {
        CellarClub x = Check.loaded("Cm000m000w0102b02o0001o1001");
        check.due("nothing is owed", x.pay(0), 0);
        x.allocate(0);
        x.deliver(0);
        check.due("1 is owed", x.pay(0), 1);
        check.due("nothing is owed then", x.member(0, 1), 0);
        check.due("nothing to pay", x.pay(0), 0);
        x.cork(0, 0);
        check.due("less than 0 is owed", x.pay(0), -1);
        check.due("nothing is owed again", x.pay(0), 0);
        check.due("the other member owes as before", x.member(1, 1), 1);
        check.due("the most that is owed", Clubs.brimful().pay(5), 3168);
    }

    /** Promise 22: "Throws IllegalStateException if none is remembered" */
    private static void undoOfNothing(Check check) {
        check.refused("undo of a new object", Check.STATE, Clubs::empty, x -> x.undo());
        check.refused("undo of a loaded club", Check.STATE, () -> fiveMembers(), x -> x.undo());
        check.refused("undo of all that is remembered", Check.STATE, () -> allUndone(), x -> x.undo());
        CellarClub x = new CellarClub();
        x.addMember(0);
        check.due("one action", x.undo(), 0);
        check.thrown("no action is left", Check.STATE, () -> x.undo());
        check.due("nobody is left", x.about(0), 0);
    }

    private static CellarClub allUndone() {
        CellarClub x = Clubs.crowded();
        for (int i = 0; i < 14; i++) {
            x.undo();
        }
        return x;
    }

    /** "Each call of one of them that does not throw an exception is an action, also if nothing becomes different" */
    private static void alsoIfNothingBecomesDifferent(Check check) {
        CellarClub x = Check.loaded("Cm000w0100");
        x.order(0, 0, 0);
        x.pay(0);
        x.pay(0);
        check.due("the third of three", x.undo(), 2);
        check.due("the second", x.undo(), 1);
        check.due("the first", x.undo(), 0);
    }

    /** "(undo is none)" */
    private static void undoIsNone(Check check) {
        CellarClub x = Check.loaded("Cm000w0160");
        x.order(0, 0, 1);
        x.order(0, 0, 2);
        check.due("the second order", x.undo(), 1);
        check.due("the first order", x.undo(), 0);
        check.due("no order", x.has(0, 0, 0), 0);
        check.thrown("nothing is left to undo", Check.STATE, () -> x.undo());
        x.order(0, 0, 3);
        check.due("another order", x.undo(), 0);
    }

    private static CellarClub ordered(int times) {
        CellarClub x = Check.loaded("Cm000w0160");
        for (int n = 1; n <= times; n++) {
            x.order(0, 0, n);
        }
        return x;
    }

    /** "At most 14 states are remembered" */
    private static void atMost14(Check check) {
        for (int times : new int[] {1, 13, 14, 15, 16, 28, 29, 43, 60}) {
            CellarClub x = ordered(times);
            int most = times < 14 ? times : 14;
            for (int left = most - 1; left >= 0; left--) {
                check.due("states left of " + times, x.undo(), left);
                check.due("the order then", x.has(0, 0, 0), times - most + left);
            }
            check.thrown("more than " + most + " of " + times, Check.STATE, () -> x.undo());
        }
    }

    /** "when one more is remembered, the oldest one is forgotten" */
    private static void theOldestOneIsForgotten(Check check) {
        CellarClub x = ordered(14);
        x.undo();
        x.undo();
        x.order(0, 0, 50);
        x.order(0, 0, 51);
        check.due("fourteen again", x.undo(), 13);
        x.order(0, 0, 51);
        x.order(0, 0, 52);
        for (int left = 13; left >= 0; left--) {
            check.due("left", x.undo(), left);
        }
        check.due("the order after the one that is forgotten", x.has(0, 0, 0), 1);
    }

    /** "Before each action, the state is remembered." */
    private static void everyActionIsRemembered(Check check) {
        taken(check, "addMember", 2, x -> x.addMember(0));
        taken(check, "addWine", 3, x -> x.addWine(1, 0));
        taken(check, "addBin", 4, x -> x.addBin(1));
        taken(check, "order", 5, x -> x.order(1, 1, 60));
        taken(check, "allocate", 5, x -> x.allocate(1));
        taken(check, "deliver", 4, x -> x.deliver(2));
        taken(check, "drink", 7, x -> x.drink(0, 0, 1));
        taken(check, "give", 3, x -> x.give(0, 1, 0, 1));
        taken(check, "cork", 1, x -> x.cork(0, 0));
        taken(check, "move", 2, x -> x.move(3, 2, 1));
        taken(check, "pay", 40, x -> x.pay(0));
    }

    private static void taken(Check check, String what, int want, Check.Act act) {
        CellarClub x = Clubs.rich();
        String before = Check.stateOf(x);
        check.due(what, act.on(x), want);
        check.due(what + " is remembered", x.undo(), 6);
        check.sameState(what + " is undone", x, before);
        check.due(what + " leaves what was remembered", x.undo(), 5);
    }

    /** "A call that throws an exception changes nothing.", with fourteen states remembered. */
    private static void refusedCallsAreNotRemembered(Check check) {
        check.refused("order", Check.RANGE, Clubs::crowded, x -> x.order(0, 0, 61));
        check.refused("deliver", Check.STATE, Clubs::crowded, x -> x.deliver(0));
        check.refused("drink", Check.STATE, Clubs::crowded, x -> x.drink(0, 0, 1));
        check.refused("give", Check.STATE, Clubs::crowded, x -> x.give(0, 1, 0, 1));
        check.refused("cork", Check.STATE, Clubs::crowded, x -> x.cork(0, 0));
        check.refused("move", Check.STATE, Clubs::crowded, x -> x.move(0, 1, 1));
        check.refused("load", Check.STATE, Clubs::crowded, x -> x.load());
        check.refused("restore", Check.STATE, Clubs::crowded, x -> x.restore(0));
    }
}
