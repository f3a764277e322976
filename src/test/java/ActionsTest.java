/** Promises 11 to 22. */
public final class ActionsTest {
    private static final int NONE = CellarClub.NONE;

    public static void main(String[] args) {
        Check check = new Check();
        adding(check);
        addingTooMany(check);
        ordering(check);
        allocating(check);
        allocatingByFractions(check);
        allocatingEdges(check);
        delivering(check);
        laying(check);
        drinking(check);
        giving(check);
        corking(check);
        corkingFromReserve(check);
        moving(check);
        paying(check);
        undoing(check);
        remembering(check);
        throwingChangesNothing(check);
        check.end();
    }

    private static void adding(Check check) {
        CellarClub x = new CellarClub();
        check.thrown("11: -1", Check.RANGE, () -> x.addMember(-1));
        check.thrown("11: 1000", Check.RANGE, () -> x.addMember(1000));
        check.due("11: 0", x.addMember(0), 0);
        check.due("11: 999", x.addMember(999), 1);
        check.due("11: points", x.member(1, 0), 999);
        check.due("11: owes", x.member(1, 1), 0);
        check.thrown("12: price 0", Check.RANGE, () -> x.addWine(0, 5));
        check.thrown("12: price 100", Check.RANGE, () -> x.addWine(100, 5));
        check.thrown("12: bottles -1", Check.RANGE, () -> x.addWine(5, -1));
        check.thrown("12: bottles 61", Check.RANGE, () -> x.addWine(5, 61));
        check.due("12: least", x.addWine(1, 0), 0);
        check.due("12: most", x.addWine(99, 60), 1);
        check.due("12: price", x.wine(1, 0), 99);
        check.due("12: bottles", x.wine(1, 1), 60);
        check.due("12: reserve", x.wine(1, 2), 60);
        check.due("12: open", x.wine(1, 3), 0);
        check.thrown("13: 0", Check.RANGE, () -> x.addBin(0));
        check.thrown("13: 25", Check.RANGE, () -> x.addBin(25));
        check.due("13: 1", x.addBin(1), 0);
        check.due("13: 24", x.addBin(24), 1);
        check.due("13: size", x.bin(1, 0), 24);
        check.due("13: wine", x.bin(1, 1), NONE);
        check.due("13: bottles", x.bin(1, 2), 0);
    }

    private static void addingTooMany(Check check) {
        CellarClub x = new CellarClub();
        for (int i = 0; i < 6; i++) {
            check.due("11: member", x.addMember(i), i);
            check.due("12: wine", x.addWine(i + 1, i), i);
        }
        for (int i = 0; i < 8; i++) {
            check.due("13: bin", x.addBin(i + 1), i);
        }
        check.thrown("11: seventh", Check.STATE, () -> x.addMember(1));
        check.thrown("11: seventh out of range", Check.RANGE, () -> x.addMember(1000));
        check.thrown("12: seventh", Check.STATE, () -> x.addWine(1, 1));
        check.thrown("12: seventh out of range", Check.RANGE, () -> x.addWine(1, 61));
        check.thrown("13: ninth", Check.STATE, () -> x.addBin(1));
        check.thrown("13: ninth out of range", Check.RANGE, () -> x.addBin(25));
        check.due("13: bins", x.about(2), 8);
    }

    private static void ordering(Check check) {
        CellarClub x = Check.loaded("Cm001m002w0105w0206");
        check.due("14: first", x.order(1, 0, 60), 0);
        check.due("14: previous", x.order(1, 0, 7), 60);
        check.due("14: the order", x.has(1, 0, 0), 7);
        check.due("14: of the other member", x.has(0, 0, 0), 0);
        check.due("14: of the other wine", x.has(1, 1, 0), 0);
        check.due("14: none", x.order(1, 0, 0), 7);
        check.thrown("14: member -1", Check.NO_SUCH, () -> x.order(-1, 0, 1));
        check.thrown("14: member 2", Check.NO_SUCH, () -> x.order(2, 0, 61));
        check.thrown("14: wine 2", Check.NO_SUCH, () -> x.order(0, 2, 1));
        check.thrown("14: wine -1", Check.NO_SUCH, () -> x.order(0, -1, -1));
        check.thrown("14: -1", Check.RANGE, () -> x.order(0, 0, -1));
        check.thrown("14: 61", Check.RANGE, () -> x.order(0, 0, 61));
        x.allocate(0);
        check.thrown("14: allocated", Check.STATE, () -> x.order(0, 0, 1));
        check.thrown("14: allocated, 61", Check.RANGE, () -> x.order(0, 0, 61));
        x.deliver(0);
        check.thrown("14: delivered", Check.STATE, () -> x.order(0, 0, 0));
        check.due("14: the other wine is open", x.order(0, 1, 1), 0);
    }

    private static void allocating(Check check) {
        CellarClub x = Check.loaded("Cm003m001w0911b12o0009o1004");
        // Quotients of member 0: 4, 2, 4/3, 1, 4/5 ..; of member 1: 2, 1, 2/3, 1/2.
        check.due("15: bottles", x.allocate(0), 11);
        check.due("15: member 0", x.has(0, 0, 1), 8);
        check.due("15: member 1", x.has(1, 0, 1), 3);
        check.due("15: orders become 0", x.wine(0, 8), 0);
        check.due("15: reserve", x.wine(0, 2), 0);
        check.due("15: stage", x.wine(0, 3), 1);
        check.due("15: points 0", x.member(0, 0), 11);
        check.due("15: points 1", x.member(1, 0), 4);
        check.due("15: half", x.member(0, 1), 36);
        check.due("15: half, rounded up", x.member(1, 1), 14);
        check.due("15: not in the cellar", x.about(3), 0);
        check.thrown("15: again", Check.STATE, () -> x.allocate(0));
        check.thrown("15: wine 1", Check.NO_SUCH, () -> x.allocate(1));
        check.thrown("15: wine -1", Check.NO_SUCH, () -> x.allocate(-1));
    }

    private static void allocatingByFractions(Check check) {
        // 999/2 and 333/1 against 1000/3: whole numbers would take 333 for 333 1/3.
        CellarClub x = Check.loaded("Cm332m999w0103o0002o1060");
        x.allocate(0);
        check.due("15: 1000/3 is more than 333", x.has(1, 0, 1), 3);
        // A tie goes to the lowest: 4/1, 4/1, then 4/2, 4/2.
        CellarClub y = Check.loaded("Cm003m003m003w0104o2003o1003o0003");
        y.allocate(0);
        check.due("15: tie 0", y.has(0, 0, 1), 2);
        check.due("15: tie 1", y.has(1, 0, 1), 1);
        check.due("15: tie 2", y.has(2, 0, 1), 1);
        // Who has all that is claimed gets no more, and the rest stays in the reserve.
        CellarClub z = Check.loaded("Cm900m000w0310o0002o1003");
        check.due("15: claims", z.allocate(0), 5);
        check.due("15: claim 0", z.has(0, 0, 1), 2);
        check.due("15: claim 1", z.has(1, 0, 1), 3);
        check.due("15: rest", z.wine(0, 2), 5);
        check.due("15: rounded up", z.member(1, 1), 5);
    }

    private static void allocatingEdges(Check check) {
        CellarClub x = Check.loaded("Cm995m998w0160w0200w9905o0010o0110");
        x.allocate(0);
        check.due("15: points to 999 at most", x.member(0, 0), 999);
        check.due("15: points of one who got none", x.member(1, 0), 998);
        check.due("15: no bottles", x.allocate(1), 0);
        check.due("15: claims of none", x.member(0, 1), 5);
        check.due("15: no orders", x.allocate(2), 0);
        check.due("15: reserve without orders", x.wine(2, 2), 5);
        check.due("15: stage without orders", x.wine(2, 3), 1);
        full(check);
        CellarClub y = Check.loaded("Cw0505");
        check.due("15: no members", y.allocate(0), 0);
        check.due("15: no members, deliver", y.deliver(0), 0);
    }

    private static void full(Check check) {
        CellarClub x = new CellarClub();
        for (int i = 0; i < 6; i++) {
            x.addMember(i);
            x.addWine(i + 1, 7);
        }
        for (int b = 0; b < 8; b++) {
            x.addBin(7);
        }
        for (int w = 0; w < 6; w++) {
            for (int m = 0; m < 6; m++) {
                x.order(m, w, 1);
            }
            check.due("26: nobody is short", x.shortest(w), NONE);
            check.due("23: one for the last", x.wouldGet(5, w), 1);
            check.due("15: one for each", x.allocate(w), 6);
            check.due("16: one of each", x.deliver(w), 6);
        }
        check.due("16: bins", x.about(8), 2);
        check.due("16: points of the last", x.member(5, 0), 11);
        check.due("16: debts of the last", x.member(5, 1), 21);
        check.due("25: bins", x.fewestBins(), 6);
        check.due("17: the last bottle", x.drink(5, 5, 1), 0);
        check.due("19: the last wine", x.cork(4, 5), 1);
        check.due("18: the last members", x.give(5, 4, 4, 1), 2);
        check.due("20: the last bins", x.move(5, 7, 5), 5);
        check.due("21: the last member", x.pay(5), 21);
    }

    private static void delivering(Check check) {
        CellarClub x = Check.loaded("Cm009m001w0907w0505b06o0003o1004o0105");
        check.thrown("16: open", Check.STATE, () -> x.deliver(0));
        check.thrown("16: wine 2", Check.NO_SUCH, () -> x.deliver(2));
        check.thrown("16: wine -1", Check.NO_SUCH, () -> x.deliver(-1));
        x.allocate(0);
        check.thrown("16: no room for seven", Check.STATE, () -> x.deliver(0));
        check.due("16: stays allocated", x.wine(0, 7), 7);
        x.addBin(1);
        check.due("16: just room", x.deliver(0), 7);
        check.bins("16: ", x, 6, 1);
        check.due("16: stage", x.wine(0, 3), 2);
        check.due("16: no more allocated", x.wine(0, 7), 0);
        check.due("16: cellar", x.wine(0, 4), 7);
        check.due("16: member 0", x.has(0, 0, 2), 3);
        check.due("16: member 1", x.has(1, 0, 2), 4);
        check.due("16: owes 27 together", x.member(0, 1), 27);
        check.due("16: owes 36 together", x.member(1, 1), 36);
        check.thrown("16: again", Check.STATE, () -> x.deliver(0));
        x.addBin(4);
        x.allocate(1);
        check.thrown("16: bins of another wine are no room", Check.STATE, () -> x.deliver(1));
        x.drink(0, 0, 1);
        check.due("16: the emptied bin is room", x.bin(1, 1), NONE);
        check.due("16: with the emptied bin", x.deliver(1), 5);
        check.bins("16: ", x, 6, 1, 4);
        check.due("16: wine in the emptied bin", x.bin(1, 1), 1);
    }

    private static void laid(Check check, String bins, int n, int... want) {
        CellarClub x = Check.loaded("Cm000w0160" + bins);
        x.order(0, 0, n);
        x.allocate(0);
        check.due("16: " + bins, x.deliver(0), n);
        check.bins("16: " + n + " in " + bins, x, want);
    }

    private static void laying(Check check) {
        laid(check, "b03b05b04b04", 4, 0, 0, 4, 0);
        laid(check, "b03b05b04b04", 5, 0, 5, 0, 0);
        laid(check, "b03b05b04b04", 1, 1, 0, 0, 0);
        laid(check, "b03b05b06b06", 10, 0, 4, 6, 0);
        laid(check, "b03b05b06b06", 9, 3, 0, 6, 0);
        laid(check, "b03b05b06b06", 12, 0, 0, 6, 6);
        laid(check, "b02b02b02", 5, 2, 2, 1);
        laid(check, "b01b24b24b12", 60, 0, 24, 24, 12);
        laid(check, "b01b01", 0, 0, 0);
    }

    private static CellarClub cellar() {
        // Member 0 has 8 and member 1 has 3: bin 0 (size 4) holds 4, bin 1 (6) 6, bin 2 (2) 1.
        CellarClub x = Check.loaded("Cm003m001w0511w0705b04b06b02o0009o1004o1105");
        x.allocate(0);
        x.deliver(0);
        return x;
    }

    private static void drinking(Check check) {
        CellarClub x = cellar();
        check.bins("17: before", x, 4, 6, 1);
        check.due("17: three", x.drink(0, 0, 3), 5);
        check.bins("17: first the fewest", x, 2, 6, 0);
        check.due("17: drunk by the member", x.member(0, 3), 3);
        check.due("17: drunk of the wine", x.wine(0, 5), 3);
        check.due("17: drunk by the other", x.member(1, 3), 0);
        check.due("17: owes as before", x.member(0, 1), 40);
        check.thrown("17: member 2", Check.NO_SUCH, () -> x.drink(2, 0, 0));
        check.thrown("17: member -1", Check.NO_SUCH, () -> x.drink(-1, 0, 1));
        check.thrown("17: wine 2", Check.NO_SUCH, () -> x.drink(0, 2, 61));
        check.thrown("17: 0", Check.RANGE, () -> x.drink(0, 0, 0));
        check.thrown("17: 61", Check.RANGE, () -> x.drink(0, 0, 61));
        check.thrown("17: 60", Check.STATE, () -> x.drink(0, 0, 60));
        check.thrown("17: six of five", Check.STATE, () -> x.drink(0, 0, 6));
        check.thrown("17: of an open wine", Check.STATE, () -> x.drink(1, 1, 1));
        x.allocate(1);
        check.thrown("17: of an allocated wine", Check.STATE, () -> x.drink(1, 1, 1));
        check.due("17: all", x.drink(0, 0, 5), 0);
        check.bins("17: the rest", x, 0, 3, 0);
        check.thrown("17: none left", Check.STATE, () -> x.drink(0, 0, 1));
        CellarClub z = Check.loaded("Cm000w0105w0203b05b03o0005o0103");
        for (int w = 0; w < 2; w++) {
            z.allocate(w);
            z.deliver(w);
        }
        z.drink(0, 0, 1);
        check.bins("17: from bins with this wine", z, 4, 3);
        CellarClub y = Check.loaded("Cm000w0104b02b02o0004");
        y.allocate(0);
        y.deliver(0);
        y.drink(0, 0, 1);
        check.bins("17: among several from the highest", y, 2, 1);
    }

    private static void giving(Check check) {
        CellarClub x = cellar();
        check.due("18: two", x.give(0, 1, 0, 2), 5);
        check.due("18: left", x.has(0, 0, 2), 6);
        check.bins("18: they stay where they are", x, 4, 6, 1);
        check.due("18: not drunk", x.about(4), 0);
        check.due("18: points stay", x.member(1, 0), 4);
        check.due("18: debts stay", x.member(1, 1), 15);
        check.due("18: all", x.give(0, 1, 0, 6), 11);
        check.thrown("18: none left", Check.STATE, () -> x.give(0, 1, 0, 1));
        check.thrown("18: too many", Check.STATE, () -> x.give(1, 0, 0, 12));
        check.thrown("18: member 2", Check.NO_SUCH, () -> x.give(2, 2, 0, 1));
        check.thrown("18: other 2", Check.NO_SUCH, () -> x.give(1, 2, 0, 0));
        check.thrown("18: other -1", Check.NO_SUCH, () -> x.give(1, -1, 0, 1));
        check.thrown("18: wine 2", Check.NO_SUCH, () -> x.give(1, 1, 2, 1));
        check.thrown("18: the same", Check.RANGE, () -> x.give(0, 0, 0, 1));
        check.thrown("18: 0", Check.RANGE, () -> x.give(1, 0, 0, 0));
        check.thrown("18: 61", Check.RANGE, () -> x.give(1, 0, 0, 61));
        check.thrown("18: 60", Check.STATE, () -> x.give(1, 0, 0, 60));
        check.thrown("18: open", Check.STATE, () -> x.give(1, 0, 1, 1));
        check.due("18: back", x.give(1, 0, 0, 11), 11);
    }

    private static void corking(Check check) {
        CellarClub x = cellar();
        check.due("19: the reserve is empty", x.cork(1, 0), 0);
        check.due("19: a price less", x.member(1, 1), 10);
        check.due("19: a bottle less", x.has(1, 0, 2), 2);
        check.due("19: corked", x.wine(0, 6), 1);
        check.due("19: not drunk", x.about(4), 0);
        check.bins("19: from the fewest", x, 4, 6, 0);
        x.cork(1, 0);
        x.cork(1, 0);
        check.bins("19: from the next", x, 2, 6, 0);
        check.thrown("19: none left", Check.STATE, () -> x.cork(1, 0));
        x.pay(0);
        x.cork(0, 0);
        check.due("19: less than 0", x.member(0, 1), -5);
        check.due("19: together", x.about(7), -5);
        check.due("19: all corked", x.about(5), 4);
        check.thrown("19: member 2", Check.NO_SUCH, () -> x.cork(2, 0));
        check.thrown("19: member -1", Check.NO_SUCH, () -> x.cork(-1, 0));
        check.thrown("19: wine 2", Check.NO_SUCH, () -> x.cork(0, 2));
        check.thrown("19: wine -1", Check.NO_SUCH, () -> x.cork(0, -1));
        check.thrown("19: open", Check.STATE, () -> x.cork(1, 1));
    }

    private static void corkingFromReserve(Check check) {
        CellarClub x = Check.loaded("Cm000w0506b03b03o0004");
        x.allocate(0);
        x.deliver(0);
        x.move(0, 1, 1);
        check.bins("19: before", x, 2, 2);
        check.due("19: replaced", x.cork(0, 0), 1);
        check.bins("19: taken from the highest, laid into the least room", x, 3, 1);
        check.due("19: reserve", x.wine(0, 2), 1);
        check.due("19: corked", x.wine(0, 6), 1);
        check.due("19: as many", x.has(0, 0, 2), 4);
        check.due("19: owes as before", x.member(0, 1), 20);
        check.due("19: replaced again", x.cork(0, 0), 1);
        check.due("19: no more", x.cork(0, 0), 0);
        check.due("19: owes less", x.member(0, 1), 15);
        check.due("19: corked three", x.about(5), 3);
        CellarClub y = Check.loaded("Cm000w0560b02b02b01o0003");
        y.allocate(0);
        y.deliver(0);
        y.move(2, 1, 1);
        check.bins("19: before", y, 2, 1, 0);
        y.cork(0, 0);
        check.bins("19: into the smallest empty bin", y, 2, 0, 1);
        CellarClub z = Check.loaded("Cm000w0560b03b03b03o0006");
        z.allocate(0);
        z.deliver(0);
        z.move(0, 2, 1);
        z.move(1, 2, 1);
        z.cork(0, 0);
        check.bins("19: into the lowest of those with the least room", z, 3, 2, 1);
        z.drink(0, 0, 1);
        z.move(0, 2, 1);
        z.move(1, 0, 1);
        check.bins("19: before", z, 3, 1, 1);
        z.cork(0, 0);
        check.bins("19: into a bin with one bottle", z, 3, 2, 0);
    }

    private static void moving(Check check) {
        CellarClub x = Check.loaded("Cm001w0107w0202b06b04b03b24o0007o0102");
        x.allocate(0);
        x.deliver(0);
        x.allocate(1);
        x.deliver(1);
        check.bins("20: before", x, 0, 0, 2, 7);
        check.due("20: into an empty bin", x.move(3, 0, 4), 4);
        check.due("20: its wine", x.bin(0, 1), 0);
        check.due("20: into a bin with the wine", x.move(3, 0, 2), 6);
        check.bins("20: after", x, 6, 0, 2, 1);
        check.thrown("20: no room", Check.STATE, () -> x.move(3, 0, 1));
        check.thrown("20: another wine", Check.STATE, () -> x.move(3, 2, 1));
        check.thrown("20: not so many", Check.STATE, () -> x.move(3, 1, 2));
        check.thrown("20: too small", Check.STATE, () -> x.move(0, 1, 5));
        check.thrown("20: from an empty bin", Check.STATE, () -> x.move(1, 3, 1));
        check.thrown("20: from an empty bin, 24", Check.STATE, () -> x.move(1, 3, 24));
        check.due("20: the last one", x.move(3, 1, 1), 1);
        check.due("20: emptied", x.bin(3, 1), NONE);
        check.due("20: another wine into the emptied bin", x.move(2, 3, 2), 2);
        check.due("20: its new wine", x.bin(3, 1), 1);
        check.due("20: owners stay", x.has(0, 0, 2), 7);
        check.thrown("20: bin 4", Check.NO_SUCH, () -> x.move(4, 4, 1));
        check.thrown("20: bin -1", Check.NO_SUCH, () -> x.move(-1, 0, 0));
        check.thrown("20: to 4", Check.NO_SUCH, () -> x.move(0, 4, 25));
        check.thrown("20: to -1", Check.NO_SUCH, () -> x.move(0, -1, 1));
        check.thrown("20: the same", Check.RANGE, () -> x.move(0, 0, 1));
        check.thrown("20: 0", Check.RANGE, () -> x.move(0, 1, 0));
        check.thrown("20: 25", Check.RANGE, () -> x.move(0, 1, 25));
    }

    private static void paying(Check check) {
        CellarClub x = cellar();
        check.due("21: all", x.pay(0), 40);
        check.due("21: nothing is left", x.member(0, 1), 0);
        check.due("21: of the other", x.member(1, 1), 15);
        check.due("21: again", x.pay(0), 0);
        x.cork(0, 0);
        x.cork(0, 0);
        check.due("21: gets it", x.pay(0), -10);
        check.due("21: has got it", x.member(0, 1), 0);
        check.thrown("21: member 2", Check.NO_SUCH, () -> x.pay(2));
        check.thrown("21: member -1", Check.NO_SUCH, () -> x.pay(-1));
    }

    private static CellarClub after(int acts) {
        CellarClub x = Check.loaded("Cm009m001w0509w0708b05b08o0005o1006o1103");
        for (int i = 0; i < acts; i++) {
            act(x, i);
        }
        return x;
    }

    private static void undoing(Check check) {
        for (int acts = 14; acts > 0; acts--) {
            CellarClub x = after(acts);
            check.due("22: states left", x.undo(), acts - 1);
            check.sameState("22: action " + acts, x, Check.stateOf(after(acts - 1)));
        }
        CellarClub x = after(14);
        check.thrown("22: no action, as it throws", Check.STATE, () -> x.allocate(0));
        x.wouldGet(0, 0);
        x.save(0);
        x.append('x');
        for (int left = 13; left >= 0; left--) {
            check.due("22: states left", x.undo(), left);
        }
        check.sameState("22: all actions", x, Check.stateOf(after(0)));
        check.thrown("22: none is left", Check.STATE, () -> x.undo());
        check.due("22: the text is not undone", x.clearText(), 41);
        check.due("22: the slots are not undone", x.restore(0), 5);
    }

    private static void act(CellarClub x, int i) {
        switch (i) {
            case 0 -> x.addMember(4);
            case 1 -> x.addWine(3, 9);
            case 2 -> x.addBin(2);
            case 3 -> x.order(2, 0, 4);
            case 4 -> x.allocate(0);
            case 5 -> x.deliver(0);
            case 6 -> x.drink(0, 0, 2);
            case 7 -> x.give(0, 1, 0, 1);
            case 8 -> x.cork(1, 0);
            case 9 -> x.move(1, 0, 1);
            case 10 -> x.pay(0);
            case 11 -> x.pay(0);
            case 12 -> x.order(1, 1, 3);
            default -> x.drink(1, 0, 1);
        }
    }

    private static void remembering(Check check) {
        CellarClub x = Check.loaded("Cm000w0160");
        for (int n = 1; n <= 20; n++) {
            check.due("22: order", x.order(0, 0, n), n - 1);
        }
        for (int left = 13; left >= 0; left--) {
            check.due("22: left", x.undo(), left);
            check.due("22: order then", x.has(0, 0, 0), left + 6);
        }
        check.due("22: the oldest were forgotten", x.has(0, 0, 0), 6);
        check.thrown("22: at most 14", Check.STATE, () -> x.undo());
        x.order(0, 0, 6);
        check.due("22: an action that changes nothing", x.undo(), 0);
        check.thrown("22: undo is no action", Check.STATE, () -> x.undo());
    }

    private static void throwingChangesNothing(Check check) {
        CellarClub x = cellar();
        String before = Check.stateOf(x);
        check.thrown("11", Check.RANGE, () -> x.addMember(1000));
        check.thrown("12", Check.RANGE, () -> x.addWine(0, 0));
        check.thrown("13", Check.RANGE, () -> x.addBin(0));
        check.thrown("14", Check.STATE, () -> x.order(0, 0, 1));
        check.thrown("15", Check.STATE, () -> x.allocate(0));
        check.thrown("16", Check.STATE, () -> x.deliver(0));
        check.thrown("17", Check.STATE, () -> x.drink(0, 0, 9));
        check.thrown("18", Check.STATE, () -> x.give(0, 1, 0, 9));
        check.thrown("19", Check.STATE, () -> x.cork(0, 1));
        check.thrown("20", Check.STATE, () -> x.move(0, 1, 1));
        check.thrown("21", Check.NO_SUCH, () -> x.pay(6));
        check.sameState("11 to 21: throwing", x, before);
        check.due("22: throwing is no action", x.undo(), 1);
    }
}
