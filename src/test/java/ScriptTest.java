/** Promises 27 and 28. */
public final class ScriptTest {
    private static final int NONE = CellarClub.NONE;

    public static void main(String[] args) {
        Check check = new Check();
        ranges(check);
        commands(check);
        groupsThatFail(check);
        sequences(check);
        givingTheSecondWine(check);
        simulations(check);
        simulationsByHand(check);
        check.end();
    }

    private static CellarClub cellar() {
        // Wine 0: member 0 has 8, member 1 has 3, the reserve 2; wine 1 is open; wine 2 is allocated.
        CellarClub x = Check.loaded("Cm003m001w0513w0705w0309b04b06b02b09o0008o1003o1105o1204");
        x.allocate(0);
        x.deliver(0);
        x.allocate(2);
        return x;
    }

    private static void givingTheSecondWine(Check check) {
        CellarClub x = Check.loaded("Cm000m000w0109w0109b09b09o0007o0103");
        for (int w = 0; w < 2; w++) {
            x.allocate(w);
            x.deliver(w);
        }
        check.due("27: three of wine 1", x.runScript(2, 5011381103L), NONE);
        check.due("27: three of wine 1, and no more", x.runScript(2, 5011381104L), 1);
        check.due("27: four of wine 1", x.runScript(1, 50114), 0);
        check.due("27: four of wine 0", x.runScript(1, 50104), NONE);
        CellarClub y = Check.loaded("Cm000m000w0109w0109w0109b09o0202");
        y.allocate(2);
        y.deliver(2);
        check.due("27: one of wine 2", y.runScript(2, 5012181201L), NONE);
    }

    private static void ranges(Check check) {
        CellarClub x = cellar();
        check.thrown("27: n 0", Check.RANGE, () -> x.runScript(0, 0));
        check.thrown("27: n 4", Check.RANGE, () -> x.runScript(4, 0));
        check.thrown("27: n of least int", Check.RANGE, () -> x.runScript(Integer.MIN_VALUE, 0));
        check.thrown("27: negative", Check.RANGE, () -> x.runScript(3, -1));
        check.thrown("27: least long", Check.RANGE, () -> x.runScript(3, Long.MIN_VALUE));
        check.thrown("27: six digits", Check.RANGE, () -> x.runScript(1, 100000L));
        check.thrown("27: eleven digits", Check.RANGE, () -> x.runScript(2, 10000000000L));
        check.thrown("27: sixteen digits", Check.RANGE, () -> x.runScript(3, 1000000000000000L));
        check.thrown("27: most long", Check.RANGE, () -> x.runScript(3, Long.MAX_VALUE));
        check.due("27: five digits", x.runScript(1, 99999L), 0);
        check.due("27: ten digits", x.runScript(2, 9999999999L), 0);
        check.due("27: fifteen digits", x.runScript(3, 999999999999999L), 0);
        check.due("27: 0", x.runScript(3, 0), 0);
    }

    private static void script(Check check, int n, long script, int want) {
        CellarClub x = cellar();
        String before = Check.stateOf(x);
        check.due("27: runScript(" + n + ", " + script + ")", x.runScript(n, script), want);
        check.sameState("27: a script", x, before);
        check.due("27: a script is no action", x.undo(), 2);
    }

    private static void commands(Check check) {
        script(check, 1, 11160, NONE);
        script(check, 1, 11100, NONE);
        script(check, 1, 11161, 0);
        script(check, 1, 10001, 0);
        script(check, 1, 12101, 0);
        script(check, 1, 10301, 0);
        script(check, 1, 21000, NONE);
        script(check, 1, 20000, 0);
        script(check, 1, 23000, 0);
        script(check, 1, 32000, NONE);
        script(check, 1, 31000, 0);
        script(check, 1, 30000, 0);
        script(check, 1, 33000, 0);
        script(check, 1, 40008, NONE);
        script(check, 1, 40009, 0);
        script(check, 1, 40000, 0);
        script(check, 1, 41003, NONE);
        script(check, 1, 42001, 0);
        script(check, 1, 40301, 0);
        script(check, 1, 50108, NONE);
        script(check, 1, 50109, 0);
        script(check, 1, 50100, 0);
        script(check, 1, 50001, 0);
        script(check, 1, 51001, NONE);
        script(check, 1, 50201, 0);
        script(check, 1, 60000, NONE);
        script(check, 1, 61000, NONE);
        script(check, 1, 60100, 0);
        script(check, 1, 62000, 0);
        script(check, 1, 70301, 0);
        script(check, 1, 73201, 0);
        script(check, 1, 80008, NONE);
        script(check, 1, 80009, 0);
        script(check, 1, 80000, NONE);
        script(check, 1, 80100, NONE);
        script(check, 1, 80101, 0);
        script(check, 1, 82000, 0);
        script(check, 1, 80300, 0);
        script(check, 1, 90000, NONE);
        script(check, 1, 90002, NONE);
        script(check, 1, 90003, 0);
    }

    private static void groupsThatFail(Check check) {
        script(check, 1, 1, 0);
        script(check, 1, 9999, 0);
        script(check, 1, 21001, 0);
        script(check, 1, 21010, 0);
        script(check, 1, 21100, 0);
        script(check, 1, 32001, 0);
        script(check, 1, 32010, 0);
        script(check, 1, 32100, 0);
        script(check, 1, 60001, 0);
        script(check, 1, 60010, 0);
        script(check, 1, 90010, 0);
        script(check, 1, 90100, 0);
        script(check, 1, 91000, 0);
        script(check, 2, 21000, 0);
        script(check, 3, 9000032000L, 0);
    }

    private static void sequences(Check check) {
        CellarClub x = cellar();
        check.bins("27: before", x, 0, 0, 2, 9);
        script(check, 2, 73022L * 100000 + 70301, 0);
        script(check, 2, 7300470302L, NONE);
        script(check, 2, 7300470305L, 1);
        script(check, 2, 7300470002L, 1);
        script(check, 2, 7300470102L, NONE);
        script(check, 2, 7300471001L, 1);
        script(check, 3, 730047310590000L, NONE);
        script(check, 3, 730047310590001L, NONE);
        script(check, 3, 730047310590002L, 2);
        // The first command changes what the next ones find.
        script(check, 2, 4000840001L, 1);
        script(check, 2, 4000880000L, NONE);
        script(check, 2, 5010881011L, NONE);
        script(check, 2, 5010881012L, 1);
        script(check, 3, 210003100081105L, NONE);
        script(check, 3, 210003100081106L, 2);
        script(check, 3, 111042100080000L, NONE);
        script(check, 3, 110042100080000L, 0);
        // Two corked bottles come from the reserve, the third does not.
        script(check, 3, 600006000080008L, NONE);
        script(check, 3, 610006100061000L, NONE);
        CellarClub y = Check.loaded("Cm000w0104b04o0004");
        check.due("27: order, allocate, deliver", y.runScript(3, 100022000030000L), NONE);
        check.due("27: a bottle too many is ordered", y.runScript(3, 100052000030000L), NONE);
        y.addWine(1, 9);
        check.due("27: no room for five", y.runScript(3, 101052100031000L), 2);
        check.due("27: room for four", y.runScript(3, 101042100031000L), NONE);
        check.due("27: all at once", y.runScript(3, 200003000080004L), NONE);
        check.due("27: no more empty bins", y.runScript(3, 200003000090001L), 2);
        check.due("27: two commands", y.runScript(2, 3000020000L), 0);
    }

    /** The same evenings by the calls of the face, on an object that is made for it. */
    private static int byCalls(CellarClub x, long seed, int m) {
        long r0 = seed;
        int members = x.about(0);
        int wines = x.about(1);
        for (int i = 0; i < m; i++) {
            r0 = r0 * 6364136223846793005L + 1442695040888963407L;
            int r = (int) (r0 >>> 33);
            int who = r / 8 % members;
            int what = r / 64 % wines;
            try {
                if (r % 8 <= 4) {
                    x.drink(who, what, 1 + r / 1024 % 3);
                } else if (r % 8 == 5) {
                    x.cork(who, what);
                } else {
                    x.give(who, r / 1024 % members, what, 1);
                }
            } catch (IllegalArgumentException | IllegalStateException e) {
                continue;
            }
        }
        return 1000 * x.about(3) + x.about(8);
    }

    private static CellarClub full() {
        CellarClub x = Check.loaded("Cm003m001m500w0560w0740w0309b24b12b20b09b04b02b18b05o0020o1030o2009o1112o2112o0204");
        for (int w = 0; w < 3; w++) {
            x.allocate(w);
            x.deliver(w);
        }
        return x;
    }

    private static void simulations(Check check) {
        long[] seeds = {0, 1, -1, 42, Long.MAX_VALUE, Long.MIN_VALUE, 123456789012345L};
        CellarClub x = full();
        for (long seed : seeds) {
            for (int m = 1; m <= 99; m += 14) {
                check.due("28: simulate(" + seed + ", " + m + ")", x.simulate(seed, m), byCalls(full(), seed, m));
            }
        }
        check.sameState("28: simulations", x, Check.stateOf(full()));
        check.thrown("28: 0", Check.RANGE, () -> x.simulate(1, 0));
        check.thrown("28: 100", Check.RANGE, () -> x.simulate(1, 100));
        check.thrown("28: -1", Check.RANGE, () -> x.simulate(1, -1));
        check.due("28: 99", x.simulate(7, 99), byCalls(full(), 7, 99));
        check.due("28: undo after it", x.undo(), 5);
    }

    private static void simulationsByHand(Check check) {
        check.due("28: nothing", new CellarClub().simulate(3, 99), 0);
        check.due("28: no wines", Check.loaded("Cm001b05b06").simulate(3, 99), 2);
        check.due("28: no members", Check.loaded("Cw0101b05b06b01").simulate(3, 99), 3);
        // Member 0 has 3 and member 1 has 2, in bins of 4 and 1. The first r of each seed is told.
        CellarClub x = Check.loaded("Cm000m000w0105b04b02o0003o1002");
        x.allocate(0);
        x.deliver(0);
        check.bins("28: before", x, 4, 1);
        check.due("28: r 167951807, member 1 gives to itself", x.simulate(0, 1), 5000);
        check.due("28: r 908834774, member 0 gives to member 1", x.simulate(1, 1), 5000);
        check.due("28: r 1649717740, member 1 drinks 2", x.simulate(2, 1), 3001);
        check.due("28: r 243117059, member 0 drinks 3", x.simulate(3, 1), 2001);
        check.due("28: r 1134330529, member 0 drinks 1", x.simulate(10, 1), 4001);
        check.due("28: r 1209495781, member 0 finds a cork", x.simulate(13, 1), 4001);
    }
}
