/** Promises 29 and 30. */
public final class SlotsTest {
    public static void main(String[] args) {
        Check check = new Check();
        saving(check);
        restoring(check);
        loading(check);
        check.end();
    }

    private static CellarClub cellar() {
        CellarClub x = Check.loaded("Cm003m001w0513w0705b04b06b02b09o0008o1003o1105");
        x.allocate(0);
        x.deliver(0);
        return x;
    }

    private static void saving(Check check) {
        CellarClub x = cellar();
        check.due("29: bottles", x.save(0), 11);
        check.thrown("29: slot -1", Check.NO_SUCH, () -> x.save(-1));
        check.thrown("29: slot 2", Check.NO_SUCH, () -> x.save(2));
        check.due("29: save is no action", x.undo(), 1);
        check.due("29: bottles then", x.save(1), 0);
        check.due("29: the slots are apart", x.restore(0), 11);
        x.drink(0, 0, 4);
        check.due("29: over the old one", x.save(0), 7);
        x.drink(0, 0, 1);
        check.due("29: the newer one", x.restore(0), 7);
        check.due("29: empty club", new CellarClub().save(1), 0);
    }

    private static void restoring(Check check) {
        CellarClub x = cellar();
        check.thrown("30: nothing saved", Check.STATE, () -> x.restore(0));
        check.thrown("30: slot 2", Check.NO_SUCH, () -> x.restore(2));
        check.thrown("30: slot -1", Check.NO_SUCH, () -> x.restore(-1));
        x.drink(0, 0, 1);
        x.cork(1, 0);
        x.move(3, 0, 2);
        x.save(1);
        check.thrown("30: nothing in the other", Check.STATE, () -> x.restore(0));
        check.due("30: throwing forgets nothing", x.undo(), 4);
        x.move(3, 0, 2);
        String saved = Check.stateOf(x);
        x.addMember(4);
        x.addWine(5, 6);
        x.addBin(7);
        x.order(2, 2, 3);
        x.pay(0);
        x.drink(0, 0, 3);
        check.due("30: bottles", x.restore(1), 10);
        check.sameState("30: restored", x, saved);
        check.thrown("30: remembered states are forgotten", Check.STATE, () -> x.undo());
        x.drink(1, 0, 2);
        check.due("30: the slot keeps it", x.restore(1), 10);
        check.sameState("30: restored again", x, saved);
        x.addMember(1);
        check.due("30: restore is no action", x.undo(), 0);
        x.drink(1, 0, 2);
        x.undo();
        check.due("30: undo leaves the slot", x.restore(1), 10);
        x.addMember(9);
        check.due("30: a new member has no order", x.has(2, 1, 0), 0);
        check.due("30: a new member owes nothing", x.member(2, 1), 0);
    }

    private static void loading(Check check) {
        CellarClub x = cellar();
        x.save(0);
        x.append('x');
        check.thrown("30: no club", Check.STATE, () -> x.load());
        check.due("30: a load that throws leaves the slots", x.restore(0), 11);
        x.clearText();
        Check.write(x, "Cm007");
        check.due("30: the text is no part of the state", x.restore(0), 11);
        x.load();
        check.thrown("30: since the last load", Check.STATE, () -> x.restore(0));
        x.save(0);
        check.due("30: saved since", x.restore(0), 0);
        check.due("30: the text stays", x.clearText(), 5);
    }
}
