/** Clubs on which the edges are tried. Each call makes the same club anew. */
final class Clubs {
    static CellarClub empty() {
        return new CellarClub();
    }

    /**
     * A club with something of everything: wine 0 is delivered (8 bottles of member 0, 2 of member 1, a reserve of 1;
     * bins 0 to 3 of the sizes 4, 6, 2, 9 hold 0, 0, 1, 9), wine 1 is open (member 1 orders 5 of 5), wine 2 is allocated
     * (4 to member 1, a reserve of 5). A text of 56 characters, six remembered states, and a state in each slot.
     */
    static CellarClub rich() {
        CellarClub x = Check.loaded("Cm003m001w0513w0705w0309b04b06b02b09o0008o1003o1105o1204");
        x.allocate(0);
        x.save(1);
        x.deliver(0);
        x.drink(1, 0, 1);
        x.save(0);
        x.cork(0, 0);
        x.pay(1);
        x.allocate(2);
        return x;
    }

    /** Six members, six wines of seven bottles and eight bins; fourteen states are remembered. */
    static CellarClub crowded() {
        CellarClub x = new CellarClub();
        for (int i = 0; i < 6; i++) {
            x.addMember(i);
            x.addWine(i + 1, 7);
        }
        for (int b = 0; b < 8; b++) {
            x.addBin(b + 1);
        }
        return x;
    }

    /** Eight bins of 24, full: 48 bottles of each of the wines 0 to 3, of which each of six members has 8. */
    static CellarClub brimful() {
        CellarClub x = new CellarClub();
        for (int i = 0; i < 6; i++) {
            x.addMember(0);
            x.addWine(99, 60);
        }
        for (int b = 0; b < 8; b++) {
            x.addBin(24);
        }
        for (int w = 0; w < 4; w++) {
            for (int m = 0; m < 6; m++) {
                x.order(m, w, 8);
            }
            x.allocate(w);
            x.deliver(w);
        }
        return x;
    }
}
