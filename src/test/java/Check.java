/** Counts the answers that are not as due, and ends the program by them. */
final class Check {
    interface Call {
        int run();
    }

    interface Act {
        int on(CellarClub x);
    }

    interface Maker {
        CellarClub make();
    }

    static final Class<? extends RuntimeException> NO_SUCH = IndexOutOfBoundsException.class;
    static final Class<? extends RuntimeException> RANGE = IllegalArgumentException.class;
    static final Class<? extends RuntimeException> STATE = IllegalStateException.class;

    private int asked;
    private int wrong;

    void due(String what, long got, long want) {
        asked++;
        if (got != want) {
            wrong++;
            System.out.println(what + " answered " + got + ", due is " + want);
        }
    }

    void thrown(String what, Class<? extends RuntimeException> want, Call call) {
        asked++;
        String got;
        try {
            got = "answered " + call.run();
        } catch (RuntimeException e) {
            if (e.getClass() == want) {
                return;
            }
            got = "threw " + e;
        }
        wrong++;
        System.out.println(what + " " + got + ", due is " + want.getName());
    }

    /** The call throws this, and all that can be asked then is as on an object without the call. */
    void refused(String what, Class<? extends RuntimeException> want, Maker maker, Act act) {
        CellarClub x = maker.make();
        thrown(what, want, () -> act.on(x));
        changedNothing(what, x, maker);
    }

    /** The call answers this, and all that can be asked then is as on an object without the call. */
    void toldOnly(String what, long want, Maker maker, Act act) {
        CellarClub x = maker.make();
        due(what, act.on(x), want);
        changedNothing(what, x, maker);
    }

    private void changedNothing(String what, CellarClub x, Maker maker) {
        asked++;
        String got = everythingOf(x);
        String want = everythingOf(maker.make());
        if (!got.equals(want)) {
            wrong++;
            System.out.println(what + " changed " + want + " to " + got);
        }
    }

    /** The state, the text, the remembered states and the save slots. Nothing of these is left as it was. */
    private static String everythingOf(CellarClub x) {
        StringBuilder s = new StringBuilder(stateOf(x)).append("| text ").append(x.errorPosition());
        for (int undone = 0; undone < 15; undone++) {
            int left = tried(() -> x.undo());
            s.append("| undo ").append(left).append(": ").append(left < 0 ? "" : briefly(x));
        }
        for (int slot = 0; slot < 2; slot++) {
            int asked = slot;
            int restored = tried(() -> x.restore(asked));
            s.append("| slot ").append(slot).append(": ").append(restored < 0 ? "" : briefly(x));
        }
        int loaded = tried(() -> x.load());
        s.append("| load ").append(loaded).append(": ").append(loaded < 0 ? "" : briefly(x));
        return s.append("| length ").append(x.clearText()).toString();
    }

    private static int tried(Call call) {
        try {
            return call.run();
        } catch (IllegalStateException e) {
            return -1;
        }
    }

    private static String briefly(CellarClub x) {
        StringBuilder s = new StringBuilder();
        for (int what = 0; what <= 9; what++) {
            s.append(x.about(what)).append(' ');
        }
        return s.toString();
    }

    void bins(String what, CellarClub x, int... bottles) {
        for (int b = 0; b < bottles.length; b++) {
            due(what + ", bottles of bin " + b, x.bin(b, 2), bottles[b]);
        }
    }

    void end() {
        System.out.println(asked + " asked, " + wrong + " not as due");
        if (wrong != 0 || asked == 0) {
            System.exit(1);
        }
    }

    static void write(CellarClub x, String text) {
        for (int i = 0; i < text.length(); i++) {
            x.append(text.charAt(i));
        }
    }

    static CellarClub loaded(String text) {
        CellarClub x = new CellarClub();
        write(x, text);
        x.load();
        return x;
    }

    /** Everything that can be asked of the state. */
    static String stateOf(CellarClub x) {
        StringBuilder s = new StringBuilder();
        for (int what = 0; what <= 9; what++) {
            s.append(x.about(what)).append(' ');
        }
        for (int m = 0; m < x.about(0); m++) {
            for (int what = 0; what <= 3; what++) {
                s.append(x.member(m, what)).append(' ');
            }
        }
        for (int w = 0; w < x.about(1); w++) {
            for (int what = 0; what <= 8; what++) {
                s.append(x.wine(w, what)).append(' ');
            }
        }
        for (int b = 0; b < x.about(2); b++) {
            for (int what = 0; what <= 2; what++) {
                s.append(x.bin(b, what)).append(' ');
            }
        }
        for (int m = 0; m < x.about(0); m++) {
            for (int w = 0; w < x.about(1); w++) {
                for (int what = 0; what <= 2; what++) {
                    s.append(x.has(m, w, what)).append(' ');
                }
            }
        }
        return s.toString();
    }

    void sameState(String what, CellarClub x, String before) {
        asked++;
        if (!stateOf(x).equals(before)) {
            wrong++;
            System.out.println(what + " left " + stateOf(x) + ", due is " + before);
        }
    }
}
