/** Promises 6 to 10. */
public final class FactsTest {
    private static final int NONE = CellarClub.NONE;

    public static void main(String[] args) {
        Check check = new Check();
        // Wine 0 is delivered, drunk and corked; wine 1 is allocated; wine 2 is open.
        CellarClub x = Check.loaded("Cm009m004w0520w0709w9960b06b04b08b24o0006o1003o0102o1109o0260o1201");
        x.allocate(0);
        x.deliver(0);
        x.drink(0, 0, 2);
        x.drink(1, 0, 1);
        x.cork(1, 0);
        x.allocate(1);
        about(check, x);
        member(check, x);
        wine(check, x);
        bin(check, x);
        has(check, x);
        check.end();
    }

    private static void row(Check check, String what, int[] got, int... want) {
        for (int i = 0; i < want.length; i++) {
            check.due(what + " " + i, got[i], want[i]);
        }
    }

    private static void about(Check check, CellarClub x) {
        int[] got = new int[10];
        for (int what = 0; what < 10; what++) {
            got[what] = x.about(what);
        }
        // Of 9 bottles 3 were drunk; the corked one came from the reserve again.
        // Owed: 30 and 15 pence for wine 0; halves of 14 and of 49 pence for wine 1.
        row(check, "6: about", got, 2, 3, 4, 6, 3, 1, 10 + 0 + 60, 30 + 15 + 7 + 25, 3, 42 - 6);
        check.thrown("6: -1", Check.RANGE, () -> x.about(-1));
        check.thrown("6: 10", Check.RANGE, () -> x.about(10));
    }

    private static void member(Check check, CellarClub x) {
        for (int what = 0; what < 4; what++) {
            check.due("7: member 0, " + what, x.member(0, what), new int[] {9 + 6 + 2, 37, 4, 2}[what]);
            check.due("7: member 1, " + what, x.member(1, what), new int[] {4 + 3 + 7, 40, 2, 1}[what]);
        }
        check.thrown("7: member -1", Check.NO_SUCH, () -> x.member(-1, 0));
        check.thrown("7: member 2", Check.NO_SUCH, () -> x.member(2, 0));
        check.thrown("7: member 2, what 9", Check.NO_SUCH, () -> x.member(2, 9));
        check.thrown("7: member of most int", Check.NO_SUCH, () -> x.member(Integer.MAX_VALUE, 9));
        check.thrown("7: what -1", Check.RANGE, () -> x.member(0, -1));
        check.thrown("7: what 4", Check.RANGE, () -> x.member(1, 4));
    }

    private static void wine(Check check, CellarClub x) {
        int[][] want = {{5, 20, 10, 2, 6, 3, 1, 0, 0}, {7, 9, 0, 1, 0, 0, 0, 9, 0}, {99, 60, 60, 0, 0, 0, 0, 0, 61}};
        for (int w = 0; w < 3; w++) {
            for (int what = 0; what < 9; what++) {
                check.due("8: wine " + w + ", " + what, x.wine(w, what), want[w][what]);
            }
        }
        check.thrown("8: wine -1", Check.NO_SUCH, () -> x.wine(-1, 0));
        check.thrown("8: wine 3", Check.NO_SUCH, () -> x.wine(3, 0));
        check.thrown("8: wine 3, what -1", Check.NO_SUCH, () -> x.wine(3, -1));
        check.thrown("8: what -1", Check.RANGE, () -> x.wine(0, -1));
        check.thrown("8: what 9", Check.RANGE, () -> x.wine(0, 9));
    }

    private static void bin(Check check, CellarClub x) {
        // The nine bottles went all into the smallest bin with room for them.
        int[][] want = {{6, NONE, 0}, {4, NONE, 0}, {8, NONE, 0}, {24, 0, 6}};
        for (int b = 0; b < 4; b++) {
            for (int what = 0; what < 3; what++) {
                check.due("9: bin " + b + ", " + what, x.bin(b, what), want[b][what]);
            }
        }
        check.thrown("9: bin -1", Check.NO_SUCH, () -> x.bin(-1, 0));
        check.thrown("9: bin 4", Check.NO_SUCH, () -> x.bin(4, 0));
        check.thrown("9: bin 8, what 3", Check.NO_SUCH, () -> x.bin(8, 3));
        check.thrown("9: what -1", Check.RANGE, () -> x.bin(0, -1));
        check.thrown("9: what 3", Check.RANGE, () -> x.bin(0, 3));
        x.drink(0, 0, 4);
        x.drink(1, 0, 2);
        check.due("9: the wine of a bin that was emptied", x.bin(3, 1), NONE);
        x.undo();
        x.undo();
    }

    private static void has(Check check, CellarClub x) {
        int[][][] want = {{{0, 0, 4}, {0, 2, 0}, {60, 0, 0}}, {{0, 0, 2}, {0, 7, 0}, {1, 0, 0}}};
        for (int m = 0; m < 2; m++) {
            for (int w = 0; w < 3; w++) {
                for (int what = 0; what < 3; what++) {
                    check.due("10: has " + m + " " + w + " " + what, x.has(m, w, what), want[m][w][what]);
                }
            }
        }
        check.thrown("10: member 2", Check.NO_SUCH, () -> x.has(2, 0, 0));
        check.thrown("10: member -1", Check.NO_SUCH, () -> x.has(-1, 0, 3));
        check.thrown("10: wine 3", Check.NO_SUCH, () -> x.has(0, 3, 0));
        check.thrown("10: wine -1", Check.NO_SUCH, () -> x.has(0, -1, -1));
        check.thrown("10: what -1", Check.RANGE, () -> x.has(0, 0, -1));
        check.thrown("10: what 3", Check.RANGE, () -> x.has(1, 2, 3));
    }
}
