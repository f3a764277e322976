/** Promises 2 to 5 and the part "TEXT" of the terms: one test for each sentence that names a boundary. */
public final class EdgesOfTextTest {
    private static final int NONE = CellarClub.NONE;
    private static final String SIX_MEMBERS = "m000m999m100m010m001m500";
    private static final String SIX_WINES = "w0100w9960w0160w9900w1001w5059";
    private static final String EIGHT_BINS = "b01b24b10b19b20b09b02b23";
    private static final String EIGHT_ORDERS = "o0000o5560o0560o5000o1101o2259o3310o4430";

    public static void main(String[] args) {
        Check check = new Check();
        characters(check);
        atMost120(check);
        lengths(check);
        previousLength(check);
        readAgain(check);
        theLetterC(check);
        anyNumberOfParts(check);
        threeDigitsOfPoints(check);
        sixMembers(check);
        priceFrom01To99(check);
        bottlesFrom00To60(check);
        sixWines(check);
        sizeFrom01To24(check);
        eightBins(check);
        orderOfAMember(check);
        orderOfAWine(check);
        orderFrom00To60(check);
        laterReplacesEarlier(check);
        whereAnOrderMayStand(check);
        noBlanks(check);
        firstCharacterOnly(check);
        endsTooSoon(check);
        oneLongText(check);
        replacesEverything(check);
        forgetsAndEmpties(check);
        keepsTheText(check);
        refusedLoads(check);
        check.end();
    }

    /** "character code, 0 to 255"; "Throws IllegalArgumentException if c is out of range" */
    private static void characters(Check check) {
        CellarClub x = new CellarClub();
        for (int c = 0; c <= 255; c++) {
            check.due("character " + c, x.append(c), c % 120 + 1);
            if (c % 120 == 119) {
                x.clearText();
            }
        }
        for (int c : new int[] {-1, 256, 'C' + 256, 'C' - 256, 65536 + 'C', Integer.MIN_VALUE, Integer.MAX_VALUE}) {
            check.refused("character " + c, Check.RANGE, Clubs::rich, y -> y.append(c));
            check.refused("character " + c + " of an empty text", Check.RANGE, Clubs::empty, y -> y.append(c));
        }
    }

    private static CellarClub longText(int length) {
        CellarClub x = new CellarClub();
        x.addMember(4);
        x.save(1);
        x.append('C');
        for (int i = 1; i < length; i++) {
            x.append("b01".charAt((i - 1) % 3));
        }
        return x;
    }

    /** "Throws IllegalStateException if the text already has 120 characters" */
    private static void atMost120(Check check) {
        check.due("the 119th character", longText(118).append('b'), 119);
        check.due("the 120th character", longText(119).append('b'), 120);
        check.refused("a 121st character", Check.STATE, () -> longText(120), x -> x.append('b'));
        check.refused("a 121st character, 0", Check.STATE, () -> longText(120), x -> x.append(0));
        check.refused("a 121st character, 255", Check.STATE, () -> longText(120), x -> x.append(255));
        check.refused("a 121st character, -1", Check.RANGE, () -> longText(120), x -> x.append(-1));
        check.refused("a 121st character, 256", Check.RANGE, () -> longText(120), x -> x.append(256));
        CellarClub x = longText(120);
        x.clearText();
        check.due("room again", x.append('C'), 1);
        check.due("a short text again", x.errorPosition(), NONE);
    }

    /** "Returns the new length of the text." */
    private static void lengths(Check check) {
        CellarClub x = new CellarClub();
        for (int length = 1; length <= 120; length++) {
            check.due("new length", x.append(length), length);
        }
        check.due("the length at last", x.clearText(), 120);
    }

    /** "Returns the previous length of the text." */
    private static void previousLength(Check check) {
        CellarClub x = new CellarClub();
        check.due("nothing to clear", x.clearText(), 0);
        x.append(0);
        check.due("one character", x.clearText(), 1);
        check.due("cleared already", x.clearText(), 0);
        check.due("119 characters", longText(119).clearText(), 119);
        check.due("120 characters", longText(120).clearText(), 120);
    }

    private static CellarClub withText(String text) {
        CellarClub x = new CellarClub();
        x.addMember(7);
        x.addWine(5, 6);
        x.save(0);
        x.addBin(3);
        Check.write(x, text);
        return x;
    }

    /** The text is no club: it has an error at this index, and load is refused. */
    private static void wrong(Check check, String text, int position) {
        check.toldOnly("errorPosition of " + text, position, () -> withText(text), x -> x.errorPosition());
        check.refused("load of " + text, Check.STATE, () -> withText(text), x -> x.load());
    }

    /** The text is a club of so many members, wines and bins. */
    private static void right(Check check, String text, int members, int wines, int bins) {
        check.toldOnly("errorPosition of " + text, NONE, () -> withText(text), x -> x.errorPosition());
        CellarClub x = withText(text);
        check.due("load of " + text, x.load(), members);
        check.due("members of " + text, x.about(0), members);
        check.due("wines of " + text, x.about(1), wines);
        check.due("bins of " + text, x.about(2), bins);
    }

    /** "Checks the text", as it is now: what was read before is no matter. */
    private static void readAgain(Check check) {
        CellarClub x = new CellarClub();
        Check.write(x, "Cm99x");
        check.due("an error at 4", x.errorPosition(), 4);
        check.due("the same error again", x.errorPosition(), 4);
        x.clearText();
        check.due("an empty text then", x.errorPosition(), 0);
        x.append('x');
        check.due("an error at 0", x.errorPosition(), 0);
        x.clearText();
        Check.write(x, "Cm999");
        check.due("no error", x.errorPosition(), NONE);
        check.due("one member", x.load(), 1);
        Check.write(x, "m998");
        check.due("read from the left again", x.load(), 2);
    }

    /** "A club is the letter C" */
    private static void theLetterC(Check check) {
        wrong(check, "", 0);
        wrong(check, "B", 0);
        wrong(check, "D", 0);
        wrong(check, "c", 0);
        wrong(check, "" + (char) 0, 0);
        wrong(check, "" + (char) ('C' + 128), 0);
        wrong(check, "m001", 0);
        wrong(check, "CC", 1);
        wrong(check, "Cm000C", 5);
        right(check, "C", 0, 0, 0);
    }

    /** "and then any number of parts, in any order" */
    private static void anyNumberOfParts(Check check) {
        right(check, "Cm000", 1, 0, 0);
        right(check, "Cw0100", 0, 1, 0);
        right(check, "Cb01", 0, 0, 1);
        right(check, "Cb01w0100m000o0000", 1, 1, 1);
        right(check, "Cw0100m000o0000b01m000b01w0100o1100", 2, 2, 2);
        right(check, "C" + EIGHT_BINS + SIX_WINES + SIX_MEMBERS + EIGHT_ORDERS, 6, 6, 8);
        right(check, "C" + SIX_MEMBERS + SIX_WINES + EIGHT_ORDERS + EIGHT_BINS, 6, 6, 8);
        for (char c : new char[] {'a', 'c', 'l', 'n', 'p', 'v', 'x', 'M', 'W', 'B', 'O', '0', '9', (char) 0, (char) 255}) {
            wrong(check, "C" + c, 1);
            wrong(check, "Cb01" + c, 4);
        }
    }

    /** "the letter m and three digits for the points of a member" */
    private static void threeDigitsOfPoints(Check check) {
        right(check, "Cm000", 1, 0, 0);
        right(check, "Cm999", 1, 0, 0);
        check.due("points 000", Check.loaded("Cm000").member(0, 0), 0);
        check.due("points 001", Check.loaded("Cm001").member(0, 0), 1);
        check.due("points 100", Check.loaded("Cm100").member(0, 0), 100);
        check.due("points 999", Check.loaded("Cm999").member(0, 0), 999);
        wrong(check, "Cm/00", 2);
        wrong(check, "Cm:00", 2);
        wrong(check, "Cm0/0", 3);
        wrong(check, "Cm9:9", 3);
        wrong(check, "Cm00/", 4);
        wrong(check, "Cm99:", 4);
        wrong(check, "Cm9990", 5);
        wrong(check, "Cm99m", 4);
    }

    /** "(at most 6 of these)" */
    private static void sixMembers(Check check) {
        right(check, "C" + SIX_MEMBERS, 6, 0, 0);
        wrong(check, "C" + SIX_MEMBERS + "m", 25);
        wrong(check, "C" + SIX_MEMBERS + "m000", 25);
        wrong(check, "C" + SIX_MEMBERS + "b01m000", 28);
    }

    /** "the letter w, two digits from 01 to 99 for the price" */
    private static void priceFrom01To99(Check check) {
        right(check, "Cw0100", 0, 1, 0);
        right(check, "Cw9900", 0, 1, 0);
        check.due("price 01", Check.loaded("Cw0100").wine(0, 0), 1);
        check.due("price 10", Check.loaded("Cw1000").wine(0, 0), 10);
        check.due("price 99", Check.loaded("Cw9900").wine(0, 0), 99);
        wrong(check, "Cw0000", 3);
        wrong(check, "Cw00", 3);
        wrong(check, "Cw0/00", 3);
        wrong(check, "Cw0:00", 3);
        wrong(check, "Cw9:00", 3);
        wrong(check, "Cw/100", 2);
        wrong(check, "Cw:100", 2);
    }

    /** "and two from 00 to 60 for the bottles of a wine" */
    private static void bottlesFrom00To60(Check check) {
        right(check, "Cw0160", 0, 1, 0);
        right(check, "Cw0159", 0, 1, 0);
        check.due("bottles 00", Check.loaded("Cw0100").wine(0, 1), 0);
        check.due("bottles 60", Check.loaded("Cw0160").wine(0, 1), 60);
        wrong(check, "Cw0161", 5);
        wrong(check, "Cw0169", 5);
        wrong(check, "Cw0170", 4);
        wrong(check, "Cw0199", 4);
        wrong(check, "Cw01:0", 4);
        wrong(check, "Cw01/0", 4);
        wrong(check, "Cw016/", 5);
        wrong(check, "Cw015:", 5);
        wrong(check, "Cw01600", 6);
    }

    /** "(at most 6)" */
    private static void sixWines(Check check) {
        right(check, "C" + SIX_WINES, 0, 6, 0);
        wrong(check, "C" + SIX_WINES + "w", 31);
        wrong(check, "C" + SIX_WINES + "w0101", 31);
        wrong(check, "C" + SIX_WINES + "m000w0101", 35);
    }

    /** "the letter b and two digits from 01 to 24 for the size of a bin" */
    private static void sizeFrom01To24(Check check) {
        right(check, "Cb01", 0, 0, 1);
        right(check, "Cb24", 0, 0, 1);
        check.due("size 01", Check.loaded("Cb01").bin(0, 0), 1);
        check.due("size 10", Check.loaded("Cb10").bin(0, 0), 10);
        check.due("size 24", Check.loaded("Cb24").bin(0, 0), 24);
        wrong(check, "Cb00", 3);
        wrong(check, "Cb25", 3);
        wrong(check, "Cb29", 3);
        wrong(check, "Cb30", 2);
        wrong(check, "Cb99", 2);
        wrong(check, "Cb/1", 2);
        wrong(check, "Cb2/", 3);
        wrong(check, "Cb1:", 3);
        wrong(check, "Cb240", 4);
    }

    /** "(at most 8)" */
    private static void eightBins(Check check) {
        right(check, "C" + EIGHT_BINS, 0, 0, 8);
        wrong(check, "C" + EIGHT_BINS + "b", 25);
        wrong(check, "C" + EIGHT_BINS + "b01", 25);
        wrong(check, "C" + EIGHT_BINS + "m000b01", 29);
    }

    /** "the letter o, a digit for a member ... told ahead" */
    private static void orderOfAMember(Check check) {
        right(check, "Cm000w0100o0000", 1, 1, 0);
        wrong(check, "Cm000w0100o1000", 11);
        wrong(check, "Cm000w0100o1000m000", 11);
        right(check, "Cm000w0100m000o1000", 2, 1, 0);
        wrong(check, "Cm000w0100m000o2000", 15);
        right(check, "C" + SIX_MEMBERS + "w0100o5000", 6, 1, 0);
        wrong(check, "C" + SIX_MEMBERS + "w0100o6000", 31);
        wrong(check, "C" + SIX_MEMBERS + "w0100o9000", 31);
        wrong(check, "Cm000w0100o/000", 11);
        wrong(check, "Cm000w0100o:000", 11);
    }

    /** "and one for a wine that were told ahead" */
    private static void orderOfAWine(Check check) {
        wrong(check, "Cm000w0100o0100", 12);
        wrong(check, "Cm000w0100o0100w0100", 12);
        right(check, "Cm000w0100w0100o0100", 1, 2, 0);
        wrong(check, "Cm000w0100w0100o0200", 17);
        right(check, "Cm000" + SIX_WINES + "o0500", 1, 6, 0);
        wrong(check, "Cm000" + SIX_WINES + "o0600", 37);
        wrong(check, "Cm000" + SIX_WINES + "o0900", 37);
        wrong(check, "Cm000w0100o0/00", 12);
        wrong(check, "Cm000w0100o0:00", 12);
    }

    /** "and two digits from 00 to 60 for the order" */
    private static void orderFrom00To60(Check check) {
        check.due("order 00", Check.loaded("Cm000w0100o0000").has(0, 0, 0), 0);
        check.due("order 09", Check.loaded("Cm000w0100o0009").has(0, 0, 0), 9);
        check.due("order 10", Check.loaded("Cm000w0100o0010").has(0, 0, 0), 10);
        check.due("order 60", Check.loaded("Cm000w0100o0060").has(0, 0, 0), 60);
        wrong(check, "Cm000w0100o0061", 14);
        wrong(check, "Cm000w0100o0069", 14);
        wrong(check, "Cm000w0100o0070", 13);
        wrong(check, "Cm000w0100o00/0", 13);
        wrong(check, "Cm000w0100o000:", 14);
        wrong(check, "Cm000w0100o00600", 15);
    }

    /** "a later one replaces an earlier one" */
    private static void laterReplacesEarlier(Check check) {
        check.due("60 and 0", Check.loaded("Cm000w0100o0060o0000").has(0, 0, 0), 0);
        check.due("0 and 60", Check.loaded("Cm000w0100o0000b01o0060").has(0, 0, 0), 60);
        CellarClub x = Check.loaded("Cm000m000w0100w0100o0011o0112o1013o1114o0001");
        check.due("replaced", x.has(0, 0, 0), 1);
        check.due("of the other wine", x.has(0, 1, 0), 12);
        check.due("of the other member", x.has(1, 0, 0), 13);
        check.due("of both others", x.has(1, 1, 0), 14);
    }

    /** "it may stand wherever a member and a wine were told ahead" */
    private static void whereAnOrderMayStand(Check check) {
        wrong(check, "Co", 1);
        wrong(check, "Co0000", 1);
        wrong(check, "Co0000m000w0100", 1);
        wrong(check, "Cm000o0000w0100", 5);
        wrong(check, "Cw0100o0000m000", 6);
        wrong(check, "Cb01o0000", 4);
        right(check, "Cw0100m000o0000", 1, 1, 0);
        right(check, "Cm000b01w0100b01o0000b01", 1, 1, 3);
        right(check, "Cm000w0100o0000m000o1001w0100o1101", 2, 2, 0);
    }

    /** "There are no blanks." */
    private static void noBlanks(Check check) {
        wrong(check, " ", 0);
        wrong(check, " C", 0);
        wrong(check, "C ", 1);
        wrong(check, "C m000", 1);
        wrong(check, "Cm 000", 2);
        wrong(check, "Cm000 ", 5);
        wrong(check, "Cw01 00", 4);
        wrong(check, "Cm000\n", 5);
    }

    /** "the index of the first character that these rules do not allow at its place" */
    private static void firstCharacterOnly(Check check) {
        wrong(check, "Xm99x", 0);
        wrong(check, "Cxm99x", 1);
        wrong(check, "Cm99xw0000", 4);
        wrong(check, "Cm000w0161b99", 9);
        wrong(check, "Cb24b25b00", 6);
    }

    /** "if the text ends too soon, it is the length of the text" */
    private static void endsTooSoon(Check check) {
        String text = "Cm123w4556b12o0034";
        // The text may end behind each part, and nowhere else.
        String ends = "NYNNNYNNNNYNNYNNNNY";
        for (int length = 0; length <= text.length(); length++) {
            String start = text.substring(0, length);
            if (ends.charAt(length) == 'Y') {
                check.due("errorPosition of " + start, withText(start).errorPosition(), NONE);
            } else {
                wrong(check, start, length);
            }
        }
    }

    /** "a text buffer of at most 120 characters", read up to its last one */
    private static void oneLongText(Check check) {
        String club = "C" + SIX_MEMBERS + SIX_WINES + EIGHT_BINS + EIGHT_ORDERS;
        check.due("errorPosition of 119 characters", withText(club).errorPosition(), NONE);
        wrong(check, club + "o", 120);
        wrong(check, club + "m", 119);
        wrong(check, club + "w", 119);
        wrong(check, club + "b", 119);
        wrong(check, club + "0", 119);
        right(check, "C" + SIX_MEMBERS + SIX_WINES + "b01b02b03" + EIGHT_ORDERS + "o00" + "60b24", 6, 6, 4);
        String longest = "C" + "m000w0101" + "o0000".repeat(22);
        check.due("a club of 120 characters", longest.length(), 120);
        right(check, longest, 1, 1, 0);
        check.due("its last order", Check.loaded(longest.substring(0, 118) + "60").has(0, 0, 0), 60);
        wrong(check, longest.substring(0, 119) + "x", 119);
        wrong(check, longest.substring(0, 119), 119);
    }

    /** "Replaces everything by the club of the text." "Returns the number of members." */
    private static void replacesEverything(Check check) {
        CellarClub x = Clubs.rich();
        x.clearText();
        x.append('C');
        check.due("no members", x.load(), 0);
        check.sameState("nothing is left", x, Check.stateOf(new CellarClub()));
        CellarClub y = Clubs.brimful();
        Check.write(y, "C" + SIX_MEMBERS + SIX_WINES + EIGHT_BINS + EIGHT_ORDERS);
        check.due("six members", y.load(), 6);
        CellarClub z = Check.loaded("C" + SIX_MEMBERS + SIX_WINES + EIGHT_BINS + EIGHT_ORDERS);
        check.sameState("nothing of a full cellar is left", y, Check.stateOf(z));
        check.due("nothing lies in the cellar", y.about(3), 0);
        check.due("nobody owes", y.about(7), 0);
    }

    /** "Forgets all remembered states and empties both save slots."; "load and restore are not actions." */
    private static void forgetsAndEmpties(Check check) {
        CellarClub x = Clubs.rich();
        x.load();
        check.thrown("no state is remembered", Check.STATE, () -> x.undo());
        check.thrown("slot 0 is empty", Check.STATE, () -> x.restore(0));
        check.thrown("slot 1 is empty", Check.STATE, () -> x.restore(1));
        x.addMember(5);
        check.due("the first action since", x.undo(), 0);
        check.due("the members of the text", x.about(0), 2);
    }

    /** "Keeps the text." */
    private static void keepsTheText(Check check) {
        CellarClub x = Clubs.rich();
        x.load();
        check.due("the text is a club", x.errorPosition(), NONE);
        check.due("load again", x.load(), 2);
        check.due("one character more", x.append('!'), 57);
        check.due("its position", x.errorPosition(), 56);
        check.due("its length", x.clearText(), 57);
    }

    /** "Throws IllegalStateException if the text is not a club" */
    private static void refusedLoads(Check check) {
        check.refused("load of a new object", Check.STATE, Clubs::empty, x -> x.load());
        check.refused("load without a text", Check.STATE, Clubs::crowded, x -> x.load());
        check.refused("load of a rich club's text and more", Check.STATE, () -> spoilt(), x -> x.load());
        CellarClub x = spoilt();
        check.thrown("load", Check.STATE, () -> x.load());
        check.due("the states are still remembered", x.undo(), 5);
        check.due("slot 1 is still filled", x.restore(1), 0);
        check.due("slot 0 is still filled", x.restore(0), 10);
    }

    private static CellarClub spoilt() {
        CellarClub x = Clubs.rich();
        x.append('m');
        return x;
    }
}
