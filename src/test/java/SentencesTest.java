/** Sentences of the document that only show when one thing has happened before another, or when there are many. */
public final class SentencesTest {
    private static final int NONE = CellarClub.NONE;

    public static void main(String[] args) {
        Check check = new Check();
        pointsFromPastBuying(check);
        no1000Points(check);
        gotOfThisWine(check);
        claimsForThisWine(check);
        pointsGrowAfterwards(check);
        onlyBuyingGivesPoints(check);
        whoComesLater(check);
        whatWasTakenBack(check);
        sumsOfOrdersAndAllocations(check);
        sumsOfTheCellar(check);
        theyStayWhereTheyAre(check);
        belongToTheOtherMember(check);
        theLastBins(check);
        inHowFewBinsAllCouldLie(check);
        textIsNoState(check);
        debtsAddUp(check);
        check.end();
    }

    private static void bring(CellarClub x, int w) {
        x.allocate(w);
        x.deliver(w);
    }

    /** "members with points from past buying": what a wine has given counts for the next one. */
    private static void pointsFromPastBuying(Check check) {
        CellarClub x = Check.loaded("Cm005m003w0103w0101o1003o0101o1101");
        check.due("more points, the only bottle", x.wouldGet(0, 1), 1);
        check.due("who is short before", x.shortest(1), 1);
        x.allocate(0);
        check.due("fewer points now", x.wouldGet(0, 1), 0);
        check.due("more points now", x.wouldGet(1, 1), 1);
        check.due("who is short now", x.shortest(1), 0);
        x.allocate(1);
        check.due("allocated to who has bought", x.has(1, 1, 1), 1);
    }

    /** "the points of the member grow by the bottles got (to 999 at most)", also for what is allocated then */
    private static void no1000Points(Check check) {
        CellarClub x = Check.loaded("Cm999m990w0160w0101o1060o0101o1101");
        x.allocate(0);
        check.due("as many points as the other", x.member(1, 0), 999);
        check.due("among several the lowest one", x.wouldGet(0, 1), 1);
        x.allocate(1);
        check.due("allocated to the lowest one", x.has(0, 1, 1), 1);
    }

    /** "(bottles got so far + 1)": those of other wines, allocated or in the cellar, do not count. */
    private static void gotOfThisWine(Check check) {
        CellarClub x = Check.loaded("Cm999m999w0109w0101b24o0009o0101o1101");
        x.allocate(0);
        check.due("nine of another wine are allocated", x.wouldGet(0, 1), 1);
        x.deliver(0);
        check.due("nine of another wine are delivered", x.wouldGet(0, 1), 1);
        x.allocate(1);
        check.due("the lowest one got it", x.has(0, 1, 1), 1);
    }

    /** "each member has a claim: as many bottles as are ordered", of this wine */
    private static void claimsForThisWine(Check check) {
        CellarClub x = Check.loaded("Cm000m000w0109w0109o0009o1001o0101o1109");
        check.due("nine and one are ordered", x.allocate(0), 9);
        check.due("one less than the claim", x.has(0, 0, 1), 8);
        check.due("one and nine are ordered, and nine points", x.allocate(1), 9);
        check.due("the claim is fulfilled", x.has(0, 1, 1), 1);
        check.due("the others", x.has(1, 1, 1), 8);
        check.due("of the first wine as before", x.has(0, 0, 1), 8);
    }

    /** The bottles of one wine are all given out by the points that were there before. */
    private static void pointsGrowAfterwards(Check check) {
        CellarClub x = Check.loaded("Cm001m000w0160o0060o1060");
        x.allocate(0);
        // Two thirds and one third; if the points grew on the way, the first would get nearly all.
        check.due("two thirds", x.has(0, 0, 1), 40);
        check.due("one third", x.has(1, 0, 1), 20);
        check.due("points of two thirds", x.member(0, 0), 41);
    }

    /** Points grow "by the bottles got"; delivery, drinking, giving, corks and paying leave them. */
    private static void onlyBuyingGivesPoints(Check check) {
        CellarClub x = Check.loaded("Cm100m200w9907b24o0004o1002");
        x.allocate(0);
        x.deliver(0);
        x.drink(0, 0, 1);
        x.give(0, 1, 0, 1);
        x.cork(0, 0);
        x.cork(0, 0);
        x.drink(1, 0, 2);
        x.pay(0);
        check.due("the reserve was used up", x.wine(0, 2), 0);
        check.due("points of the one", x.member(0, 0), 104);
        check.due("points of the other", x.member(1, 0), 202);
    }

    /** "Adds a member", who has nothing yet of the wines of any stage, and a wine of which nobody has anything */
    private static void whoComesLater(Check check) {
        CellarClub x = Clubs.rich();
        int m = x.addMember(9);
        int w = x.addWine(9, 9);
        x.addBin(9);
        check.due("points", x.member(m, 0), 9);
        for (int what = 1; what <= 3; what++) {
            check.due("a new member, " + what, x.member(m, what), 0);
        }
        for (int what = 0; what <= 2; what++) {
            for (int other = 0; other <= w; other++) {
                check.due("a new member of wine " + other + ", " + what, x.has(m, other, what), 0);
            }
            check.due("member 0 of a new wine, " + what, x.has(0, w, what), 0);
            check.due("member 1 of a new wine, " + what, x.has(1, w, what), 0);
        }
        int[] want = {9, 9, 9, 0, 0, 0, 0, 0, 0};
        for (int what = 0; what <= 8; what++) {
            check.due("a new wine, " + what, x.wine(w, what), want[what]);
        }
        check.due("a new bin", x.bin(4, 1), NONE);
        check.due("a new bin has no bottles", x.bin(4, 2), 0);
    }

    private static void addAll(CellarClub x) {
        for (int i = 0; i < 6; i++) {
            x.addMember(i);
            x.addWine(i + 1, 9);
        }
        for (int b = 0; b < 8; b++) {
            x.addBin(b + 1);
        }
    }

    /** Something of everything, for each wine, member and bin. */
    private static void fillAll(CellarClub x) {
        for (int w = 0; w < 6; w++) {
            for (int m = 0; m < 6; m++) {
                x.order(m, w, 1 + (m + w) % 2);
            }
        }
        for (int w = 0; w < 4; w++) {
            x.allocate(w);
        }
        x.deliver(0);
        x.deliver(1);
        x.deliver(2);
        for (int m = 0; m < 6; m++) {
            x.drink(m, 0, 1);
            x.cork(m, 1);
            x.cork(m, 2);
        }
    }

    /** Load, restore and undo leave nothing behind of the members, wines and bins that are no more. */
    private static void whatWasTakenBack(Check check) {
        CellarClub fresh = new CellarClub();
        addAll(fresh);
        String want = Check.stateOf(fresh);
        CellarClub loaded = Check.loaded("C");
        addAll(loaded);
        fillAll(loaded);
        loaded.load();
        addAll(loaded);
        check.sameState("added after load", loaded, want);
        CellarClub restored = new CellarClub();
        restored.save(0);
        addAll(restored);
        fillAll(restored);
        restored.restore(0);
        addAll(restored);
        check.sameState("added after restore", restored, want);
        CellarClub undone = new CellarClub();
        addOne(undone);
        while (undone.undo() > 0) {
            continue;
        }
        check.sameState("all is undone", undone, Check.stateOf(new CellarClub()));
        addAll(undone);
        check.sameState("added after undo", undone, want);
    }

    private static void addOne(CellarClub x) {
        x.addMember(5);
        x.addWine(6, 7);
        x.addBin(3);
        x.addBin(3);
        x.order(0, 0, 5);
        bring(x, 0);
        x.drink(0, 0, 1);
        x.cork(0, 0);
        x.addWine(3, 9);
        x.order(0, 1, 4);
        x.allocate(1);
    }

    /** Member m orders m + 1 bottles of each wine, that is 21 of each; there are 40 of each, and eight great bins. */
    private static CellarClub sixBySix() {
        CellarClub x = new CellarClub();
        for (int i = 0; i < 6; i++) {
            x.addMember(0);
            x.addWine(i + 1, 40);
        }
        for (int b = 0; b < 8; b++) {
            x.addBin(24);
        }
        for (int m = 0; m < 6; m++) {
            for (int w = 0; w < 6; w++) {
                x.order(m, w, m + 1);
            }
        }
        return x;
    }

    /** "7: those that are allocated, but not delivered; 8: the bottles that are ordered", by all members */
    private static void sumsOfOrdersAndAllocations(Check check) {
        CellarClub x = sixBySix();
        for (int w = 0; w < 6; w++) {
            check.due("ordered of wine " + w, x.wine(w, 8), 21);
            check.due("allocated of wine " + w, x.allocate(w), 21);
            check.due("no more ordered of wine " + w, x.wine(w, 8), 0);
        }
        for (int w = 0; w < 6; w++) {
            check.due("to be delivered of wine " + w, x.wine(w, 7), 21);
            check.due("reserve of wine " + w, x.wine(w, 2), 19);
            check.due("delivered of wine " + w, x.deliver(w), 21);
            check.due("no more to be delivered of wine " + w, x.wine(w, 7), 0);
            check.due("in the cellar of wine " + w, x.wine(w, 4), 21);
        }
        check.due("all reserves", x.about(6), 6 * 19);
    }

    /** The numbers of promises 6 to 8, of six members and six wines that all differ. */
    private static void sumsOfTheCellar(Check check) {
        CellarClub x = sixBySix();
        for (int w = 0; w < 6; w++) {
            bring(x, w);
            for (int m = w; m < 6; m++) {
                x.drink(m, w, 1);
            }
            for (int time = 0; time < w; time++) {
                x.cork(5, w);
            }
        }
        for (int i = 0; i < 6; i++) {
            check.due("points of member " + i, x.member(i, 0), 6 * (i + 1));
            check.due("owed by member " + i, x.member(i, 1), 21 * (i + 1));
            check.due("bottles of member " + i, x.member(i, 2), 5 * (i + 1));
            check.due("drunk by member " + i, x.member(i, 3), i + 1);
            check.due("reserve of wine " + i, x.wine(i, 2), 19 - i);
            check.due("bottles of wine " + i, x.wine(i, 4), 15 + i);
            check.due("drunk of wine " + i, x.wine(i, 5), 6 - i);
            check.due("corked of wine " + i, x.wine(i, 6), i);
        }
        int[] want = {6, 6, 8, 105, 21, 15, 99, 441, 2, 87};
        for (int what = 0; what <= 9; what++) {
            check.due("about " + what, x.about(what), want[what]);
        }
        check.due("saved", x.save(0), 105);
        check.due("restored", x.restore(0), 105);
        check.due("fewest bins", x.fewestBins(), 6);
    }

    /** "give them to other members (they stay where they are)", also where they were moved to */
    private static void theyStayWhereTheyAre(Check check) {
        CellarClub x = Check.loaded("Cm000m000w0160b05b04b09o0006");
        bring(x, 0);
        x.move(2, 0, 1);
        x.move(2, 1, 2);
        check.bins("moved", x, 1, 2, 3);
        x.give(0, 1, 0, 1);
        check.bins("one is given", x, 1, 2, 3);
        x.give(0, 1, 0, 5);
        check.bins("all are given", x, 1, 2, 3);
        check.due("all belong to the other", x.has(1, 0, 2), 6);
        check.due("none belong to the giver", x.has(0, 0, 2), 0);
    }

    /** A bottle that was given is the other member's to drink and to find corked. */
    private static void belongToTheOtherMember(Check check) {
        CellarClub x = Check.loaded("Cm000m000w0703b24o0003");
        bring(x, 0);
        x.give(0, 1, 0, 2);
        check.due("the other drinks one", x.drink(1, 0, 1), 1);
        check.due("drunk by the other", x.member(1, 3), 1);
        check.due("not by the giver", x.member(0, 3), 0);
        check.due("the other finds one corked", x.cork(1, 0), 0);
        check.due("the other owes less", x.member(1, 1), -7);
        check.due("the giver owes as before", x.member(0, 1), 21);
        check.due("the giver's last one", x.has(0, 0, 2), 1);
    }

    /** What is said of bins holds for the seventh and the eighth, too. */
    private static void theLastBins(Check check) {
        CellarClub x = Check.loaded("Cm000w0160w0160b01b01b01b01b01b01b12b24o0020o0110");
        bring(x, 0);
        bring(x, 1);
        check.bins("20 and 10", x, 0, 0, 0, 0, 0, 0, 10, 20);
        check.due("room for the one", x.roomFor(0), 6 + 4);
        check.due("room for the other", x.roomFor(1), 6 + 2);
        x.cork(0, 0);
        x.cork(0, 1);
        check.bins("corked ones are replaced there", x, 0, 0, 0, 0, 0, 0, 10, 20);
        check.due("moved from the last", x.move(7, 5, 1), 1);
        check.due("moved to the last", x.move(5, 7, 1), 20);
        x.drink(0, 1, 10);
        check.due("moved to the seventh", x.move(7, 6, 12), 12);
        check.due("empty bins", x.about(8), 6);
    }

    /** "the smallest number of bins in which all bottles ... could lie", also in those that are empty now */
    private static void inHowFewBinsAllCouldLie(Check check) {
        CellarClub x = Check.loaded("Cm000w0160b05b05b24o0010");
        bring(x, 0);
        x.move(2, 0, 5);
        x.move(2, 1, 5);
        check.bins("in two bins", x, 5, 5, 0);
        check.due("the empty one would do", x.fewestBins(), 1);
        CellarClub y = Check.loaded("Cm000w0109w0109b09b04b04b01o0004o0108");
        bring(y, 0);
        y.move(1, 0, 4);
        y.move(0, 3, 1);
        y.move(0, 2, 3);
        bring(y, 1);
        check.bins("four in two bins, eight in one", y, 8, 0, 3, 1);
        check.due("four could lie in one", y.fewestBins(), 2);
    }

    /** "the state, which consists of everything but the text": append and clearText leave it. */
    private static void textIsNoState(Check check) {
        CellarClub x = Clubs.rich();
        String before = Check.stateOf(x);
        x.append('!');
        check.sameState("append", x, before);
        check.due("undo after append", x.undo(), 5);
        check.due("slot 0 after append", x.restore(0), 10);
        check.due("slot 1 after append", x.restore(1), 0);
        CellarClub y = Clubs.rich();
        check.due("the length", y.clearText(), 56);
        check.sameState("clearText", y, before);
        check.due("undo after clearText", y.undo(), 5);
        check.due("slot 0 after clearText", y.restore(0), 10);
        check.due("slot 1 after clearText", y.restore(1), 0);
    }

    /** "pence that are owed to the club": halves and rests of several wines add up, each half rounded up by itself. */
    private static void debtsAddUp(Check check) {
        CellarClub x = Check.loaded("Cm000w0301w0501w0701b24b24b24o0001o0101o0201");
        x.allocate(0);
        check.due("half of 3", x.member(0, 1), 2);
        x.allocate(1);
        check.due("and half of 5", x.member(0, 1), 5);
        x.deliver(0);
        check.due("and the rest of 3", x.member(0, 1), 6);
        x.allocate(2);
        check.due("and half of 7", x.member(0, 1), 10);
        x.deliver(2);
        check.due("and the rest of 7", x.member(0, 1), 13);
        x.deliver(1);
        check.due("and the rest of 5", x.member(0, 1), 15);
        x.cork(0, 2);
        check.due("7 less", x.member(0, 1), 8);
    }
}
