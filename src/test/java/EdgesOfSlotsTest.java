/** Promises 29 and 30: one test for each sentence that names a boundary. */
public final class EdgesOfSlotsTest {
    private static final int[] NO_SLOTS = {Integer.MIN_VALUE, -99999, -1, 2, 3, Integer.MAX_VALUE};

    public static void main(String[] args) {
        Check check = new Check();
        slots0And1(check);
        bottlesThatAreSaved(check);
        overAnOlderOne(check);
        thePresentState(check);
        restoreOfNoSlot(check);
        restoreOfNothing(check);
        sinceTheLastLoad(check);
        bottlesThen(check);
        forgetsAllRemembered(check);
        theSlotKeepsIt(check);
        noActions(check);
        textAndSlotsAreNoState(check);
        check.end();
    }

    /** Promise 29: "Throws IndexOutOfBoundsException if there is no such save slot" */
    private static void slots0And1(Check check) {
        for (int slot : NO_SLOTS) {
            check.refused("save(" + slot + ")", Check.NO_SUCH, Clubs::rich, x -> x.save(slot));
            check.refused("save(" + slot + ") of nothing", Check.NO_SUCH, Clubs::empty, x -> x.save(slot));
            check.refused("save(" + slot + ") of many", Check.NO_SUCH, Clubs::crowded, x -> x.save(slot));
        }
        check.due("save(0)", Clubs.rich().save(0), 10);
        check.due("save(1)", Clubs.rich().save(1), 10);
    }

    /** "Returns the bottles in the cellar." */
    private static void bottlesThatAreSaved(Check check) {
        check.due("nothing", Clubs.empty().save(0), 0);
        check.due("no bottles", Clubs.crowded().save(1), 0);
        check.due("all bottles", Clubs.brimful().save(0), 192);
    }

    /** "Stores the present state in a save slot.", in place of an older one */
    private static void overAnOlderOne(Check check) {
        CellarClub x = new CellarClub();
        for (int members = 1; members <= 6; members++) {
            x.addMember(members);
            x.save(0);
        }
        x.save(1);
        x.undo();
        x.save(0);
        x.restore(1);
        check.due("six in the other slot", x.about(0), 6);
        x.restore(0);
        check.due("five, the newer one", x.about(0), 5);
    }

    /** "Stores the present state": it does not go on with the club. */
    private static void thePresentState(Check check) {
        CellarClub x = Clubs.brimful();
        String full = Check.stateOf(x);
        CellarClub y = Clubs.brimful();
        y.save(1);
        for (int m = 0; m < 6; m++) {
            y.drink(m, 0, 8);
        }
        check.due("all are there again", y.restore(1), 192);
        check.sameState("a full cellar", y, full);
    }

    /** Promise 30: "Throws IndexOutOfBoundsException if there is no such save slot" */
    private static void restoreOfNoSlot(Check check) {
        for (int slot : NO_SLOTS) {
            check.refused("restore(" + slot + ")", Check.NO_SUCH, Clubs::rich, x -> x.restore(slot));
            check.refused("restore(" + slot + ") of nothing", Check.NO_SUCH, Clubs::empty, x -> x.restore(slot));
        }
    }

    private static CellarClub oneSaved(int slot) {
        CellarClub x = Clubs.crowded();
        x.save(slot);
        return x;
    }

    /** "Throws IllegalStateException if nothing has been saved in it" */
    private static void restoreOfNothing(Check check) {
        for (int slot = 0; slot < 2; slot++) {
            int asked = slot;
            check.refused("restore(" + slot + ") of a new object", Check.STATE, Clubs::empty, x -> x.restore(asked));
            check.refused("restore(" + slot + ") of many", Check.STATE, Clubs::crowded, x -> x.restore(asked));
            check.refused("only the other slot is filled", Check.STATE, () -> oneSaved(1 - asked), x -> x.restore(asked));
            check.due("this slot is filled", oneSaved(slot).restore(slot), 0);
        }
    }

    private static CellarClub loadedSince() {
        CellarClub x = Clubs.rich();
        x.load();
        x.addMember(9);
        return x;
    }

    /** "since the last load" */
    private static void sinceTheLastLoad(Check check) {
        check.refused("slot 0 since the load", Check.STATE, () -> loadedSince(), x -> x.restore(0));
        check.refused("slot 1 since the load", Check.STATE, () -> loadedSince(), x -> x.restore(1));
        CellarClub x = loadedSince();
        x.save(1);
        check.due("saved since", x.restore(1), 0);
        check.thrown("the other was not saved since", Check.STATE, () -> x.restore(0));
        CellarClub y = Clubs.rich();
        y.append('!');
        check.thrown("a load that throws", Check.STATE, () -> y.load());
        check.due("the last load was before", y.restore(0), 10);
        check.due("and of the other slot", y.restore(1), 0);
    }

    /** "Returns the bottles in the cellar then." */
    private static void bottlesThen(Check check) {
        CellarClub x = Clubs.brimful();
        x.save(0);
        x.drink(0, 0, 8);
        x.save(1);
        check.due("all", x.restore(0), 192);
        check.due("eight less", x.restore(1), 184);
        check.due("all again", x.restore(0), 192);
        check.due("in the cellar", x.about(3), 192);
    }

    /** "and forgets all remembered states" */
    private static void forgetsAllRemembered(Check check) {
        CellarClub x = Clubs.crowded();
        x.save(0);
        check.due("with fourteen remembered", x.restore(0), 0);
        check.thrown("none is remembered", Check.STATE, () -> x.undo());
        check.due("with none remembered", x.restore(0), 0);
        x.pay(0);
        check.due("the first action since", x.undo(), 0);
    }

    /** "The save slot keeps it." */
    private static void theSlotKeepsIt(Check check) {
        CellarClub x = Clubs.rich();
        x.restore(0);
        String saved = Check.stateOf(x);
        for (int time = 0; time < 3; time++) {
            x.drink(0, 0, 8);
            x.addMember(1);
            x.addBin(1);
            check.due("each time", x.restore(0), 10);
            check.sameState("time " + time, x, saved);
        }
    }

    /** "load and restore are not actions."; save stands outside the section "actions", too. */
    private static void noActions(Check check) {
        CellarClub x = Clubs.rich();
        x.save(0);
        check.due("undo after save", x.undo(), 5);
        x.restore(0);
        check.thrown("undo after restore", Check.STATE, () -> x.undo());
    }

    /** "the state, which consists of everything but the text and the save slots" */
    private static void textAndSlotsAreNoState(Check check) {
        CellarClub x = Clubs.rich();
        x.append('b');
        x.save(1);
        x.undo();
        check.due("undo leaves the text", x.errorPosition(), 57);
        x.restore(0);
        check.due("restore leaves the text", x.append('0'), 58);
        check.due("undo and restore leave the other slot", x.restore(1), 10);
        check.due("with the state that was saved", x.wine(2, 3), 1);
        check.due("the length of the text", x.clearText(), 58);
    }
}
