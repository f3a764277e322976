/** Promises 2 to 5. */
public final class TextTest {
    private static final int NONE = CellarClub.NONE;
    private static final String MEMBERS = "m000m001m010m100m999m123";
    private static final String WINES = "w0100w9960w1001w1159w1250w1306";
    private static final String BINS = "b01b24b09b10b19b20b05b13";
    private static final String ORDERS = "o0000o5560o1209o2110o3359o4450o0501o5003";

    public static void main(String[] args) {
        Check check = new Check();
        appending(check);
        clearing(check);
        errors(check);
        orderErrors(check);
        tooMany(check);
        loading(check);
        loadingForgets(check);
        check.end();
    }

    private static void appending(Check check) {
        CellarClub x = new CellarClub();
        check.due("2: first", x.append(0), 1);
        check.due("2: second", x.append(255), 2);
        check.thrown("2: -1", Check.RANGE, () -> x.append(-1));
        check.thrown("2: 256", Check.RANGE, () -> x.append(256));
        check.thrown("2: least int", Check.RANGE, () -> x.append(Integer.MIN_VALUE));
        check.thrown("2: most int", Check.RANGE, () -> x.append(Integer.MAX_VALUE));
        for (int length = 3; length <= 120; length++) {
            check.due("2: length", x.append('m'), length);
        }
        check.thrown("2: 121st", Check.STATE, () -> x.append('m'));
        check.thrown("2: 121st, out of range", Check.RANGE, () -> x.append(256));
        check.due("2: throwing changes nothing", x.clearText(), 120);
        check.due("2: after clearing", x.append('C'), 1);
    }

    private static void clearing(Check check) {
        CellarClub x = new CellarClub();
        check.due("3: empty", x.clearText(), 0);
        Check.write(x, "Cm001");
        check.due("3: five", x.clearText(), 5);
        check.due("3: again", x.clearText(), 0);
        Check.write(x, "C");
        check.due("3: the old text is gone", x.errorPosition(), NONE);
        x.append('!');
        check.due("3: a wrong end", x.errorPosition(), 1);
        x.clearText();
        check.due("3: the error is gone, too", x.errorPosition(), 0);
        x.append('C');
        check.due("3: the old text is gone for load", x.load(), 0);
    }

    private static void error(Check check, String text, int want) {
        CellarClub x = new CellarClub();
        Check.write(x, text);
        check.due("4: " + text, x.errorPosition(), want);
        check.due("4: the text stays", x.clearText(), text.length());
    }

    private static void errors(Check check) {
        error(check, "", 0);
        error(check, "c", 0);
        error(check, " C", 0);
        error(check, "m000", 0);
        error(check, "C", NONE);
        error(check, "CC", 1);
        error(check, "C ", 1);
        error(check, "CM000", 1);
        error(check, "C000", 1);
        error(check, "Cm", 2);
        error(check, "Cm12", 4);
        error(check, "Cm000", NONE);
        error(check, "Cm999", NONE);
        error(check, "Cm12x", 4);
        error(check, "Cm1/0", 3);
        error(check, "Cm1:0", 3);
        error(check, "Cm1234", 5);
        error(check, "Cm 12", 2);
        error(check, "Cw", 2);
        error(check, "Cw0", 3);
        error(check, "Cw00", 3);
        error(check, "Cw01", 4);
        error(check, "Cw016", 5);
        error(check, "Cw0160", NONE);
        error(check, "Cw0161", 5);
        error(check, "Cw0159", NONE);
        error(check, "Cw017", 4);
        error(check, "Cw9900", NONE);
        error(check, "Cw99000", 6);
        error(check, "Cb", 2);
        error(check, "Cb0", 3);
        error(check, "Cb00", 3);
        error(check, "Cb01", NONE);
        error(check, "Cb24", NONE);
        error(check, "Cb25", 3);
        error(check, "Cb30", 2);
        error(check, "Cb19", NONE);
        error(check, "Cb019", 4);
        error(check, "Cb05w1010m004b24", NONE);
        error(check, "Cm00" + (char) 255, 4);
    }

    private static void orderErrors(Check check) {
        error(check, "Co0000", 1);
        error(check, "Cm000o0000", 5);
        error(check, "Cw0101o0000", 6);
        error(check, "Cw0101b09o0000m000", 9);
        error(check, "Cm000w0101o", 11);
        error(check, "Cm000w0101o1", 11);
        error(check, "Cm000w0101o01", 12);
        error(check, "Cm000w0101o00", 13);
        error(check, "Cm000w0101o007", 13);
        error(check, "Cm000w0101o0061", 14);
        error(check, "Cm000w0101o0060", NONE);
        error(check, "Cm000w0101o0006", NONE);
        error(check, "Cm000w0101o1000m000", 11);
        error(check, "Cm000w0101m000o1000", NONE);
        error(check, "Cm000w0101o0100w0101", 12);
        error(check, "Cw0101m000w0101o0100", NONE);
        error(check, "Cm000w0101o0010b04o0020", NONE);
        error(check, "C" + MEMBERS + WINES + "o6000", 56);
        error(check, "C" + MEMBERS + WINES + "o5600", 57);
        error(check, "C" + MEMBERS + WINES + "o5500", NONE);
    }

    private static void tooMany(Check check) {
        error(check, "C" + MEMBERS, NONE);
        error(check, "C" + MEMBERS + "m", 25);
        error(check, "C" + MEMBERS + "m000", 25);
        error(check, "C" + WINES, NONE);
        error(check, "C" + WINES + "w0101", 31);
        error(check, "C" + BINS, NONE);
        error(check, "C" + BINS + "b01", 25);
        String full = "C" + BINS + MEMBERS + WINES + ORDERS;
        error(check, full, NONE);
        error(check, full + "o", 120);
        error(check, full + "m", 119);
        error(check, full + "b", 119);
    }

    private static void loading(Check check) {
        CellarClub x = new CellarClub();
        x.addMember(5);
        x.addWine(7, 8);
        x.addBin(3);
        String before = Check.stateOf(x);
        check.thrown("5: an empty text", Check.STATE, () -> x.load());
        Check.write(x, "Cm001w05");
        check.thrown("5: no club", Check.STATE, () -> x.load());
        check.sameState("5: throwing", x, before);
        check.due("5: throwing forgets nothing", x.undo(), 2);
        Check.write(x, "60b07m999b24o0001o1012w9900o0060o1011o1100");
        check.due("5: load", x.load(), 2);
        check.due("5: wines", x.about(1), 2);
        check.due("5: bins", x.about(2), 2);
        check.due("5: points 0", x.member(0, 0), 1);
        check.due("5: points 1", x.member(1, 0), 999);
        check.due("5: price 0", x.wine(0, 0), 5);
        check.due("5: bought 0", x.wine(0, 1), 60);
        check.due("5: reserve 0", x.wine(0, 2), 60);
        check.due("5: price 1", x.wine(1, 0), 99);
        check.due("5: bought 1", x.wine(1, 1), 0);
        check.due("5: open", x.wine(0, 3), 0);
        check.due("5: size 0", x.bin(0, 0), 7);
        check.due("5: size 1", x.bin(1, 0), 24);
        check.due("5: empty bin", x.bin(1, 1), NONE);
        check.due("5: a later order replaces an earlier one", x.has(0, 0, 0), 60);
        check.due("5: order", x.has(1, 0, 0), 11);
        check.due("5: order of none", x.has(1, 1, 0), 0);
        String loaded = Check.stateOf(x);
        check.due("5: keeps the text", x.load(), 2);
        check.sameState("5: load again", x, loaded);
        check.due("5: the text is kept", x.clearText(), 50);
    }

    private static void loadingForgets(Check check) {
        CellarClub x = Check.loaded("Cm005w0509b09o0008");
        x.allocate(0);
        x.deliver(0);
        x.drink(0, 0, 2);
        x.cork(0, 0);
        x.save(0);
        x.save(1);
        check.due("5: members again", x.load(), 1);
        check.thrown("5: remembered states", Check.STATE, () -> x.undo());
        check.thrown("5: slot 0", Check.STATE, () -> x.restore(0));
        check.thrown("5: slot 1", Check.STATE, () -> x.restore(1));
        check.sameState("5: all is as in the text", x, Check.stateOf(Check.loaded("Cm005w0509b09o0008")));
        x.order(0, 0, 3);
        check.due("5: load is no action", x.undo(), 0);
        x.clearText();
        check.thrown("5: no text", Check.STATE, () -> x.load());
        Check.write(x, "C");
        check.due("5: a club of nothing", x.load(), 0);
        check.sameState("5: nothing is left", x, Check.stateOf(new CellarClub()));
        x.addMember(4);
        x.addWine(3, 2);
        x.addBin(1);
        check.due("5: nothing is left of orders", x.has(0, 0, 0), 0);
        check.due("5: nothing is left of drinking", x.member(0, 3), 0);
        check.due("5: nothing is left of debts", x.member(0, 1), 0);
        check.due("5: nothing is left of corks", x.wine(0, 6), 0);
        check.due("5: nothing is left of the stage", x.wine(0, 3), 0);
        check.due("5: nothing is left in bins", x.bin(0, 2), 0);
    }
}
