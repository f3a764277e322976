/** Promises 1 and 6 to 10: one test for each sentence that names a boundary. */
public final class EdgesOfFactsTest {
    private static final int NONE = CellarClub.NONE;
    private static final int[] FAR = {Integer.MIN_VALUE, -99999, -2, -1, 999, Integer.MAX_VALUE};

    public static void main(String[] args) {
        Check check = new Check();
        withoutAnything(check);
        aboutNothing(check);
        aboutAll(check);
        aboutWhat(check);
        noSuchMember(check);
        whatOfAMember(check);
        noSuchWine(check);
        whatOfAWine(check);
        noSuchBin(check);
        whatOfABin(check);
        emptyAndFullBins(check);
        noSuchMemberOrWine(check);
        whatAMemberHas(check);
        askingChangesNothing(check);
        check.end();
    }

    /** "Creates a club without members, wines and bins." */
    private static void withoutAnything(Check check) {
        CellarClub x = new CellarClub();
        check.due("members", x.about(0), 0);
        check.due("wines", x.about(1), 0);
        check.due("bins", x.about(2), 0);
        check.thrown("no member", Check.NO_SUCH, () -> x.pay(0));
        check.thrown("no wine", Check.NO_SUCH, () -> x.allocate(0));
        check.thrown("no bins", Check.NO_SUCH, () -> x.move(0, 1, 1));
        check.thrown("no state is remembered", Check.STATE, () -> x.undo());
        check.thrown("nothing is saved", Check.STATE, () -> x.restore(0));
        check.due("no text", x.clearText(), 0);
        check.due("the first member", x.addMember(0), 0);
        check.due("the first wine", x.addWine(1, 0), 0);
        check.due("the first bin", x.addBin(1), 0);
    }

    /** Promise 6 with nothing there yet. */
    private static void aboutNothing(Check check) {
        CellarClub x = Clubs.empty();
        for (int what = 0; what <= 9; what++) {
            check.due("about " + what + " of nothing", x.about(what), 0);
        }
    }

    /** Promise 6 with everything full. */
    private static void aboutAll(Check check) {
        CellarClub x = Clubs.brimful();
        int[] want = {6, 6, 8, 192, 0, 0, 4 * 12 + 2 * 60, 192 * 99, 0, 0};
        for (int what = 0; what <= 9; what++) {
            check.due("about " + what + " of all", x.about(what), want[what]);
        }
        for (int m = 0; m < 6; m++) {
            for (int w = 0; w < 4; w++) {
                x.drink(m, w, 8);
            }
        }
        int[] then = {6, 6, 8, 0, 192, 0, 4 * 12 + 2 * 60, 192 * 99, 8, 192};
        for (int what = 0; what <= 9; what++) {
            check.due("about " + what + " when all was drunk", x.about(what), then[what]);
        }
    }

    /** "Throws IllegalArgumentException if what is not 0 to 9" */
    private static void aboutWhat(Check check) {
        CellarClub x = Clubs.rich();
        int[] want = {2, 3, 4, 10, 1, 1, 1 + 5 + 5, 40 + 6, 2, 21 - 10};
        for (int what = 0; what <= 9; what++) {
            check.due("about " + what, x.about(what), want[what]);
        }
        check.refused("about -1", Check.RANGE, Clubs::rich, c -> c.about(-1));
        check.refused("about 10", Check.RANGE, Clubs::rich, c -> c.about(10));
        for (int far : FAR) {
            check.thrown("about " + far, Check.RANGE, () -> x.about(far));
        }
    }

    /** "Throws IndexOutOfBoundsException if there is no such member" */
    private static void noSuchMember(Check check) {
        check.refused("member 0 of none", Check.NO_SUCH, Clubs::empty, x -> x.member(0, 0));
        check.refused("member -1", Check.NO_SUCH, Clubs::rich, x -> x.member(-1, 0));
        check.refused("member 2 of 2", Check.NO_SUCH, Clubs::rich, x -> x.member(2, 0));
        check.refused("member 6 of 6", Check.NO_SUCH, Clubs::crowded, x -> x.member(6, 0));
        check.refused("member 2 and what 4", Check.NO_SUCH, Clubs::rich, x -> x.member(2, 4));
        check.refused("member -1 and what -1", Check.NO_SUCH, Clubs::rich, x -> x.member(-1, -1));
        CellarClub x = Clubs.rich();
        for (int far : FAR) {
            check.thrown("member " + far, Check.NO_SUCH, () -> x.member(far, 0));
        }
        check.due("the last of six", Clubs.crowded().member(5, 0), 5);
    }

    /** "Throws IllegalArgumentException if what is not 0 to 3" */
    private static void whatOfAMember(Check check) {
        int[][] want = {{11, 40, 8, 0}, {8, 6, 2, 1}};
        CellarClub x = Clubs.rich();
        for (int m = 0; m < 2; m++) {
            for (int what = 0; what <= 3; what++) {
                check.due("member " + m + ", " + what, x.member(m, what), want[m][what]);
            }
        }
        check.refused("what -1 of a member", Check.RANGE, Clubs::rich, c -> c.member(0, -1));
        check.refused("what 4 of a member", Check.RANGE, Clubs::rich, c -> c.member(1, 4));
        for (int far : FAR) {
            check.thrown("what " + far + " of a member", Check.RANGE, () -> x.member(0, far));
        }
        CellarClub full = Clubs.brimful();
        check.due("points of all that was got", full.member(5, 0), 32);
        check.due("bottles of four wines", full.member(5, 2), 32);
    }

    /** "Throws IndexOutOfBoundsException if there is no such wine" */
    private static void noSuchWine(Check check) {
        check.refused("wine 0 of none", Check.NO_SUCH, Clubs::empty, x -> x.wine(0, 0));
        check.refused("wine -1", Check.NO_SUCH, Clubs::rich, x -> x.wine(-1, 0));
        check.refused("wine 3 of 3", Check.NO_SUCH, Clubs::rich, x -> x.wine(3, 0));
        check.refused("wine 6 of 6", Check.NO_SUCH, Clubs::crowded, x -> x.wine(6, 0));
        check.refused("wine 3 and what 9", Check.NO_SUCH, Clubs::rich, x -> x.wine(3, 9));
        check.refused("wine -1 and what -1", Check.NO_SUCH, Clubs::rich, x -> x.wine(-1, -1));
        CellarClub x = Clubs.rich();
        for (int far : FAR) {
            check.thrown("wine " + far, Check.NO_SUCH, () -> x.wine(far, 0));
        }
        check.due("the last of six", Clubs.crowded().wine(5, 0), 6);
    }

    /** "Throws IllegalArgumentException if what is not 0 to 8" */
    private static void whatOfAWine(Check check) {
        int[][] want = {{5, 13, 1, 2, 10, 1, 1, 0, 0}, {7, 5, 5, 0, 0, 0, 0, 0, 5}, {3, 9, 5, 1, 0, 0, 0, 4, 0}};
        CellarClub x = Clubs.rich();
        for (int w = 0; w < 3; w++) {
            for (int what = 0; what <= 8; what++) {
                check.due("wine " + w + ", " + what, x.wine(w, what), want[w][what]);
            }
        }
        check.refused("what -1 of a wine", Check.RANGE, Clubs::rich, c -> c.wine(0, -1));
        check.refused("what 9 of a wine", Check.RANGE, Clubs::rich, c -> c.wine(2, 9));
        for (int far : FAR) {
            check.thrown("what " + far + " of a wine", Check.RANGE, () -> x.wine(0, far));
        }
    }

    /** "Throws IndexOutOfBoundsException if there is no such bin" */
    private static void noSuchBin(Check check) {
        check.refused("bin 0 of none", Check.NO_SUCH, Clubs::empty, x -> x.bin(0, 0));
        check.refused("bin -1", Check.NO_SUCH, Clubs::rich, x -> x.bin(-1, 0));
        check.refused("bin 4 of 4", Check.NO_SUCH, Clubs::rich, x -> x.bin(4, 0));
        check.refused("bin 8 of 8", Check.NO_SUCH, Clubs::crowded, x -> x.bin(8, 0));
        check.refused("bin 4 and what 3", Check.NO_SUCH, Clubs::rich, x -> x.bin(4, 3));
        check.refused("bin -1 and what -1", Check.NO_SUCH, Clubs::rich, x -> x.bin(-1, -1));
        CellarClub x = Clubs.rich();
        for (int far : FAR) {
            check.thrown("bin " + far, Check.NO_SUCH, () -> x.bin(far, 0));
        }
        check.due("the last of eight", Clubs.crowded().bin(7, 0), 8);
    }

    /** "Throws IllegalArgumentException if what is not 0 to 2" */
    private static void whatOfABin(Check check) {
        int[][] want = {{4, NONE, 0}, {6, NONE, 0}, {2, 0, 1}, {9, 0, 9}};
        CellarClub x = Clubs.rich();
        for (int b = 0; b < 4; b++) {
            for (int what = 0; what <= 2; what++) {
                check.due("bin " + b + ", " + what, x.bin(b, what), want[b][what]);
            }
        }
        check.refused("what -1 of a bin", Check.RANGE, Clubs::rich, c -> c.bin(0, -1));
        check.refused("what 3 of a bin", Check.RANGE, Clubs::rich, c -> c.bin(3, 3));
        for (int far : FAR) {
            check.thrown("what " + far + " of a bin", Check.RANGE, () -> x.bin(0, far));
        }
    }

    /** "1: its wine, NONE if it is empty" */
    private static void emptyAndFullBins(Check check) {
        CellarClub x = Clubs.brimful();
        check.due("the wine of the first bin", x.bin(0, 1), 0);
        check.due("the wine of the last bin", x.bin(7, 1), 3);
        check.due("the bottles of the last bin", x.bin(7, 2), 24);
        x.drink(0, 0, 8);
        x.drink(1, 0, 8);
        x.drink(2, 0, 7);
        check.due("one bottle is left", x.bin(1, 2), 1);
        check.due("the wine of one bottle", x.bin(1, 1), 0);
        x.drink(2, 0, 1);
        check.due("no bottle is left", x.bin(1, 2), 0);
        check.due("the wine of no bottle", x.bin(1, 1), NONE);
        check.due("the other bin with the wine", x.bin(0, 2), 24);
    }

    /** "Throws IndexOutOfBoundsException if there is no such member or wine" */
    private static void noSuchMemberOrWine(Check check) {
        check.refused("nobody and nothing", Check.NO_SUCH, Clubs::empty, x -> x.has(0, 0, 0));
        check.refused("has of member -1", Check.NO_SUCH, Clubs::rich, x -> x.has(-1, 0, 0));
        check.refused("has of member 2", Check.NO_SUCH, Clubs::rich, x -> x.has(2, 0, 0));
        check.refused("has of wine -1", Check.NO_SUCH, Clubs::rich, x -> x.has(0, -1, 0));
        check.refused("has of wine 3", Check.NO_SUCH, Clubs::rich, x -> x.has(0, 3, 0));
        check.refused("has of member 6", Check.NO_SUCH, Clubs::crowded, x -> x.has(6, 5, 0));
        check.refused("has of wine 6", Check.NO_SUCH, Clubs::crowded, x -> x.has(5, 6, 0));
        check.refused("has of member 2 and what 3", Check.NO_SUCH, Clubs::rich, x -> x.has(2, 0, 3));
        check.refused("has of wine 3 and what -1", Check.NO_SUCH, Clubs::rich, x -> x.has(0, 3, -1));
        CellarClub x = Clubs.rich();
        for (int far : FAR) {
            check.thrown("has of member " + far, Check.NO_SUCH, () -> x.has(far, 0, 0));
            check.thrown("has of wine " + far, Check.NO_SUCH, () -> x.has(0, far, 0));
        }
        check.due("has of the last of six", Clubs.crowded().has(5, 5, 0), 0);
    }

    /** "Throws IllegalArgumentException if what is not 0 to 2" */
    private static void whatAMemberHas(Check check) {
        int[][][] want = {{{0, 0, 8}, {0, 0, 0}, {0, 0, 0}}, {{0, 0, 2}, {5, 0, 0}, {0, 4, 0}}};
        CellarClub x = Clubs.rich();
        for (int m = 0; m < 2; m++) {
            for (int w = 0; w < 3; w++) {
                for (int what = 0; what <= 2; what++) {
                    check.due("has " + m + " " + w + " " + what, x.has(m, w, what), want[m][w][what]);
                }
            }
        }
        check.refused("what -1 of both", Check.RANGE, Clubs::rich, c -> c.has(0, 0, -1));
        check.refused("what 3 of both", Check.RANGE, Clubs::rich, c -> c.has(1, 2, 3));
        for (int far : FAR) {
            check.thrown("what " + far + " of both", Check.RANGE, () -> x.has(0, 0, far));
        }
    }

    /** "Each call of one of them [the section "actions"] ... is an action": these calls are none. */
    private static void askingChangesNothing(Check check) {
        check.toldOnly("about", 10, Clubs::rich, x -> x.about(3));
        check.toldOnly("member", 11, Clubs::rich, x -> x.member(0, 0));
        check.toldOnly("wine", 13, Clubs::rich, x -> x.wine(0, 1));
        check.toldOnly("bin", 9, Clubs::rich, x -> x.bin(3, 2));
        check.toldOnly("has", 8, Clubs::rich, x -> x.has(0, 0, 2));
    }
}
