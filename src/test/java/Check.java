/** Counts the answers that are not as due, and ends the program by them. */
final class Check {
    interface Call {
        int run();
    }

    static final Class<? extends RuntimeException> NO_SUCH = IndexOutOfBoundsException.class;
    static final Class<? extends RuntimeException> RANGE = IllegalArgumentException.class;
    static final Class<? extends RuntimeException> STATE = IllegalStateException.class;

    private int asked;
    private int wrong;

    void due(String what, long got, long want) {
        asked++;
        if (got != want) {
            wrong++;
            System.out.println(what + " answered " + got + ", due is " + want);
        }
    }

    void thrown(String what, Class<? extends RuntimeException> want, Call call) {
        asked++;
        String got;
        try {
            got = "answered " + call.run();
        } catch (RuntimeException e) {
            if (e.getClass() == want) {
                return;
            }
            got = "threw " + e;
        }
        wrong++;
        System.out.println(what + " " + got + ", due is " + want.getName());
    }

    void bins(String what, CellarClub x, int... bottles) {
        for (int b = 0; b < bottles.length; b++) {
            due(what + ", bottles of bin " + b, x.bin(b, 2), bottles[b]);
        }
    }

    void end() {
        System.out.println(asked + " asked, " + wrong + " not as due");
        if (wrong != 0 || asked == 0) {
            System.exit(1);
        }
    }

    static void write(CellarClub x, String text) {
        for (int i = 0; i < text.length(); i++) {
            x.append(text.charAt(i));
        }
    }

    static CellarClub loaded(String text) {
        CellarClub x = new CellarClub();
        write(x, text);
        x.load();
        return x;
    }

    /** Everything that can be asked of the state. */
    static String stateOf(CellarClub x) {
        StringBuilder s = new StringBuilder();
        for (int what = 0; what <= 9; what++) {
            s.append(x.about(what)).append(' ');
        }
        for (int m = 0; m < x.about(0); m++) {
            for (int what = 0; what <= 3; what++) {
                s.append(x.member(m, what)).append(' ');
            }
        }
        for (int w = 0; w < x.about(1); w++) {
            for (int what = 0; what <= 8; what++) {
                s.append(x.wine(w, what)).append(' ');
            }
        }
        for (int b = 0; b < x.about(2); b++) {
            for (int what = 0; what <= 2; what++) {
                s.append(x.bin(b, what)).append(' ');
            }
        }
        for (int m = 0; m < x.about(0); m++) {
            for (int w = 0; w < x.about(1); w++) {
                for (int what = 0; what <= 2; what++) {
                    s.append(x.has(m, w, what)).append(' ');
                }
            }
        }
        return s.toString();
    }

    void sameState(String what, CellarClub x, String before) {
        asked++;
        if (!stateOf(x).equals(before)) {
            wrong++;
            System.out.println(what + " left " + stateOf(x) + ", due is " + before);
        }
    }
}
