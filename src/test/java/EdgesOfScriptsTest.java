/** Promises 27 and 28: one test for each sentence that names a boundary. */
public final class EdgesOfScriptsTest {
    private static final int NONE = CellarClub.NONE;

    interface Wish {
        boolean holds(int r);
    }

    public static void main(String[] args) {
        Check check = new Check();
        oneToThreeCommands(check);
        digitsOfTheScript(check);
        theHighestGroupIsTheFirst(check);
        indexOfTheFirstThatFails(check);
        oneAfterTheOther(check);
        orders(check);
        allocations(check);
        deliveries(check);
        drinks(check);
        gifts(check);
        corks(check);
        moves(check);
        atLeastSoManyBottles(check);
        atLeastSoManyEmptyBins(check);
        anyOtherGroup(check);
        onACopyOfTheState(check);
        oneTo99Evenings(check);
        anySeed(check);
        withoutMembersOrWines(check);
        drinksBy0To4(check);
        whatIsNotPossible(check);
        corksBy5(check);
        giftsBy6And7(check);
        theLastMemberAndWine(check);
        whatIsAnswered(check);
        simulationsChangeNothing(check);
        check.end();
    }

    /** Promise 27: "number of commands, 1 to 3"; "Throws IllegalArgumentException if n is out of range" */
    private static void oneToThreeCommands(Check check) {
        for (int n : new int[] {Integer.MIN_VALUE, -1, 0, 4, 5, Integer.MAX_VALUE}) {
            check.refused("n " + n, Check.RANGE, Clubs::rich, x -> x.runScript(n, 90000));
            check.refused("n " + n + " and no digits", Check.RANGE, Clubs::rich, x -> x.runScript(n, 0));
        }
        check.due("one command", Clubs.rich().runScript(1, 90000), NONE);
        check.due("two commands", Clubs.rich().runScript(2, 9000090000L), NONE);
        check.due("three commands", Clubs.rich().runScript(3, 900009000090000L), NONE);
    }

    /** "or if script is negative or has more than 5 * n digits" */
    private static void digitsOfTheScript(Check check) {
        long tooMuch = 1;
        for (int n = 1; n <= 3; n++) {
            int commands = n;
            tooMuch = tooMuch * 100000;
            long least = tooMuch;
            check.refused("-1 of " + n, Check.RANGE, Clubs::rich, x -> x.runScript(commands, -1));
            check.refused("least long of " + n, Check.RANGE, Clubs::rich, x -> x.runScript(commands, Long.MIN_VALUE));
            check.refused("most long of " + n, Check.RANGE, Clubs::rich, x -> x.runScript(commands, Long.MAX_VALUE));
            check.refused("a digit too many of " + n, Check.RANGE, Clubs::rich, x -> x.runScript(commands, least));
            check.refused("1 more of " + n, Check.RANGE, Clubs::rich, x -> x.runScript(commands, least + 1));
            check.refused("many more of " + n, Check.RANGE, Clubs::rich, x -> x.runScript(commands, least * 900));
            check.toldOnly("all nines of " + n, 0, Clubs::rich, x -> x.runScript(commands, least - 1));
            check.toldOnly("0 of " + n, 0, Clubs::rich, x -> x.runScript(commands, 0));
        }
        // What is 0 or a right group in the lower 32 bits is still too long.
        check.refused("2 to the 32nd", Check.RANGE, Clubs::rich, x -> x.runScript(1, 1L << 32));
        check.refused("2 to the 32nd and a group", Check.RANGE, Clubs::rich, x -> x.runScript(1, (1L << 32) + 90000));
    }

    /** "the first command is the highest group of the number (with zeros before it, if it has fewer digits)" */
    private static void theHighestGroupIsTheFirst(Check check) {
        script(check, 2, 90000, 0);
        script(check, 3, 90000, 0);
        script(check, 3, 9000090000L, 0);
        script(check, 2, 9000000000L, 1);
        script(check, 3, 900000000000000L, 1);
        script(check, 3, 900009000000000L, 2);
        script(check, 1, 9000, 0);
        script(check, 1, 1, 0);
        // The first takes the last bottles, the second looks for them; and the other way round.
        script(check, 2, 4000880001L, 1);
        script(check, 2, 8000140008L, NONE);
    }

    /** "Returns the index, from 0, of the first command that fails; NONE if all succeed." */
    private static void indexOfTheFirstThatFails(Check check) {
        script(check, 3, 900009000090000L, NONE);
        script(check, 3, 900099000990009L, 0);
        script(check, 3, 900009000990009L, 1);
        script(check, 3, 900009000090009L, 2);
        script(check, 3, 900099000090000L, 0);
        script(check, 2, 9000090009L, 1);
        script(check, 1, 90009, 0);
    }

    private static void script(Check check, int n, long script, int want) {
        check.due("runScript(" + n + ", " + script + ")", Clubs.rich().runScript(n, script), want);
    }

    private static void one(Check check, int group, boolean succeeds) {
        script(check, 1, group, succeeds ? NONE : 0);
    }

    /** Each command finds what the ones before it have changed. */
    private static void oneAfterTheOther(Check check) {
        CellarClub x = Check.loaded("Cm000m000w0160b04o0004");
        check.due("an order of four", x.runScript(3, 100042000030000L), NONE);
        check.due("an order of five, no room", x.runScript(3, 100052000030000L), 2);
        check.due("allocated twice", x.runScript(2, 2000020000L), 1);
        check.due("delivered twice", x.runScript(3, 200003000030000L), 2);
        check.due("four are in the cellar", x.runScript(3, 200003000080004L), NONE);
        check.due("five are not", x.runScript(3, 200003000080005L), 2);
        check.due("no bin is empty", x.runScript(3, 200003000090001L), 2);
        x.allocate(0);
        check.due("four are drunk", x.runScript(3, 300004000480001L), 2);
        check.due("four are given", x.runScript(3, 300005010481004L), NONE);
        check.due("four and no more", x.runScript(3, 300005010481005L), 2);
        x.deliver(0);
        x.addBin(4);
        check.due("four are moved there and back", x.runScript(3, 701047100490001L), NONE);
        check.due("none is left after four", x.runScript(2, 7010470101L), 1);
        check.due("two are left after two, no bin is empty", x.runScript(3, 701027010190001L), 2);
        check.due("not three of two", x.runScript(2, 7010270103L), 1);
        check.due("a cork that is replaced", x.runScript(2, 6000080004L), NONE);
    }

    /** "1 m w x y: order(m, w, xy)." */
    private static void orders(Check check) {
        one(check, 11100, true);
        one(check, 11109, true);
        one(check, 11110, true);
        one(check, 11160, true);
        one(check, 11161, false);
        one(check, 11199, false);
        one(check, 10100, true);
        one(check, 12100, false);
        one(check, 19100, false);
        one(check, 11300, false);
        one(check, 11900, false);
        one(check, 11000, false);
        one(check, 11201, false);
        check.due("the last of all", Clubs.crowded().runScript(1, 15560), NONE);
        check.due("no such member", Clubs.crowded().runScript(1, 16560), 0);
        check.due("no such wine", Clubs.crowded().runScript(1, 15660), 0);
        check.due("nobody", Clubs.empty().runScript(1, 10000), 0);
    }

    /** "2 w 0 0 0: allocate(w)." */
    private static void allocations(Check check) {
        one(check, 21000, true);
        one(check, 20000, false);
        one(check, 22000, false);
        one(check, 23000, false);
        one(check, 29000, false);
        for (int spoilt : new int[] {21001, 21009, 21010, 21090, 21100, 21900}) {
            one(check, spoilt, false);
        }
        check.due("the last wine", Clubs.crowded().runScript(1, 25000), NONE);
        check.due("no such wine", Clubs.crowded().runScript(1, 26000), 0);
        check.due("no wines", Clubs.empty().runScript(1, 20000), 0);
    }

    /** "3 w 0 0 0: deliver(w)." */
    private static void deliveries(Check check) {
        one(check, 32000, true);
        one(check, 30000, false);
        one(check, 31000, false);
        one(check, 33000, false);
        one(check, 39000, false);
        for (int spoilt : new int[] {32001, 32009, 32010, 32090, 32100, 32900}) {
            one(check, spoilt, false);
        }
        CellarClub x = Check.loaded("Cm000w0160b24o0024");
        check.due("24 into 24", x.runScript(2, 2000030000L), NONE);
        x.order(0, 0, 25);
        check.due("25 into 24", x.runScript(2, 2000030000L), 1);
        check.due("no wines", Clubs.empty().runScript(1, 30000), 0);
    }

    /** "4 m w x y: drink(m, w, xy)." */
    private static void drinks(Check check) {
        one(check, 40000, false);
        one(check, 40001, true);
        one(check, 40008, true);
        one(check, 40009, false);
        one(check, 40010, false);
        one(check, 40099, false);
        one(check, 41002, true);
        one(check, 41003, false);
        one(check, 42001, false);
        one(check, 40301, false);
        one(check, 40101, false);
        one(check, 41201, false);
        CellarClub x = sixty();
        check.due("60 of 60", x.runScript(1, 40060), NONE);
        check.due("61 of 60", x.runScript(1, 40061), 0);
        check.due("nobody", Clubs.empty().runScript(1, 40001), 0);
    }

    private static CellarClub sixty() {
        CellarClub x = Check.loaded("Cm000m000w0160b24b24b12o0060");
        x.allocate(0);
        x.deliver(0);
        return x;
    }

    /** "5 m o w n: give(m, o, w, n)." */
    private static void gifts(Check check) {
        one(check, 50100, false);
        one(check, 50101, true);
        one(check, 50108, true);
        one(check, 50109, false);
        one(check, 51002, true);
        one(check, 51003, false);
        one(check, 50001, false);
        one(check, 51101, false);
        one(check, 50201, false);
        one(check, 52001, false);
        one(check, 50131, false);
        one(check, 50111, false);
        one(check, 51021, false);
        check.due("9 of 60", sixty().runScript(1, 50109), NONE);
        script(check, 2, 3200051021L, NONE);
        script(check, 2, 3200051024L, NONE);
        script(check, 2, 3200051025L, 1);
        script(check, 2, 3200051011L, 1);
        check.due("nobody", Clubs.empty().runScript(1, 50101), 0);
    }

    /** "6 m w 0 0: cork(m, w)." */
    private static void corks(Check check) {
        one(check, 60000, true);
        one(check, 61000, true);
        one(check, 62000, false);
        one(check, 60300, false);
        one(check, 60100, false);
        one(check, 61200, false);
        for (int spoilt : new int[] {60001, 60009, 60010, 60090}) {
            one(check, spoilt, false);
        }
        script(check, 3, 610006100061000L, NONE);
        script(check, 3, 610006100080009L, 2);
        CellarClub x = Check.loaded("Cm000w0101b01o0001");
        x.allocate(0);
        x.deliver(0);
        check.due("the last bottle", x.runScript(1, 60000), NONE);
        check.due("no bottle is left", x.runScript(2, 6000060000L), 1);
    }

    /** "7 b t x y: move(b, t, xy)." */
    private static void moves(Check check) {
        one(check, 72000, false);
        one(check, 72001, true);
        one(check, 72002, false);
        one(check, 73004, true);
        one(check, 73005, false);
        one(check, 73106, true);
        one(check, 73107, false);
        one(check, 73201, true);
        one(check, 73202, false);
        one(check, 72301, false);
        one(check, 73301, false);
        one(check, 70101, false);
        one(check, 74001, false);
        one(check, 73401, false);
        one(check, 73901, false);
        one(check, 73025, false);
        CellarClub x = Check.loaded("Cm000w0160b24b24o0024");
        x.allocate(0);
        x.deliver(0);
        check.due("a move of 24", x.runScript(1, 70124), NONE);
        check.due("a move of 25", x.runScript(1, 70125), 0);
        check.due("a move of 10 and 14", x.runScript(2, 7011070114L), NONE);
        CellarClub last = Check.loaded("Cm000w0160b24b24b24b24b24b24b24b01o0001");
        last.allocate(0);
        last.deliver(0);
        check.due("the last bins", last.runScript(2, 7760176701L), NONE);
        check.due("from the last bin", last.runScript(1, 77601), NONE);
        check.due("to a ninth bin", last.runScript(1, 77801), 0);
        check.due("no bins", Clubs.empty().runScript(1, 70101), 0);
    }

    /** "8 m w x y: succeeds if the member m has at least xy bottles of the wine w in the cellar." */
    private static void atLeastSoManyBottles(Check check) {
        one(check, 80000, true);
        one(check, 80007, true);
        one(check, 80008, true);
        one(check, 80009, false);
        one(check, 80010, false);
        one(check, 81002, true);
        one(check, 81003, false);
        one(check, 81200, true);
        one(check, 81201, false);
        one(check, 81101, false);
        one(check, 81105, false);
        one(check, 80100, true);
        one(check, 80101, false);
        one(check, 82000, false);
        one(check, 80300, false);
        one(check, 89900, false);
        check.due("60 of 60", sixty().runScript(1, 80060), NONE);
        check.due("61 of 60", sixty().runScript(1, 80061), 0);
        check.due("99 of 60", sixty().runScript(1, 80099), 0);
        check.due("none of a member without bottles", sixty().runScript(1, 81000), NONE);
        check.due("none of nobody", Clubs.empty().runScript(1, 80000), 0);
    }

    /** "9 0 0 0 n: succeeds if at least n bins are empty." */
    private static void atLeastSoManyEmptyBins(Check check) {
        one(check, 90000, true);
        one(check, 90001, true);
        one(check, 90002, true);
        one(check, 90003, false);
        one(check, 90009, false);
        for (int spoilt : new int[] {90010, 90090, 90100, 90900, 91000, 99000}) {
            one(check, spoilt, false);
        }
        check.due("eight empty bins", Clubs.crowded().runScript(1, 90008), NONE);
        check.due("nine empty bins", Clubs.crowded().runScript(1, 90009), 0);
        check.due("no bins, 0", Clubs.empty().runScript(1, 90000), NONE);
        check.due("no bins, 1", Clubs.empty().runScript(1, 90001), 0);
        check.due("no empty bins, 0", Clubs.brimful().runScript(1, 90000), NONE);
        check.due("no empty bins, 1", Clubs.brimful().runScript(1, 90001), 0);
        CellarClub x = Clubs.brimful();
        for (int w = 0; w < 4; w++) {
            x.drink(0, w, 8);
            x.drink(1, w, 8);
        }
        check.due("room for 64, and no empty bin", x.runScript(1, 90001), 0);
        x.drink(2, 3, 8);
        check.due("an empty bin", x.runScript(1, 90001), NONE);
        check.due("not two", x.runScript(1, 90002), 0);
    }

    /** "and so does any other group" */
    private static void anyOtherGroup(Check check) {
        for (int group : new int[] {0, 1, 10, 100, 1000, 8000, 9000, 9999}) {
            one(check, group, false);
        }
        script(check, 2, 9000000001L, 1);
        script(check, 3, 900009000000001L, 2);
    }

    /** "Runs a script on a copy of the state." */
    private static void onACopyOfTheState(Check check) {
        long[] scripts = {10160, 21000, 32000, 40008, 50108, 60000, 73004, 80000, 90000};
        for (long script : scripts) {
            check.toldOnly("script " + script, NONE, Clubs::rich, x -> x.runScript(1, script));
        }
        check.toldOnly("a script that fails late", 2, Clubs::rich, x -> x.runScript(3, 210003200000000L));
        check.toldOnly("a script of many", NONE, Clubs::crowded, x -> x.runScript(3, 155602500035000L));
        CellarClub x = Clubs.rich();
        for (int time = 0; time < 5; time++) {
            check.due("all eight, each time anew", x.runScript(1, 40008), NONE);
        }
    }

    /** Promise 28: "number of evenings, 1 to 99"; "Throws IllegalArgumentException if m is out of range" */
    private static void oneTo99Evenings(Check check) {
        for (int m : new int[] {Integer.MIN_VALUE, -1, 0, 100, Integer.MAX_VALUE}) {
            check.refused(m + " evenings", Check.RANGE, Clubs::rich, x -> x.simulate(1, m));
            check.refused(m + " evenings of nobody", Check.RANGE, Clubs::empty, x -> x.simulate(1, m));
        }
        for (int m : new int[] {1, 2, 98, 99}) {
            check.due(m + " evenings", Clubs.rich().simulate(5, m), spent(Clubs.rich(), 5, m));
        }
    }

    private static int next(long x) {
        return (int) (x >>> 33);
    }

    /** The evenings, spent by calls on the object itself. */
    private static int spent(CellarClub x, long seed, int m) {
        int members = x.about(0);
        int wines = x.about(1);
        long s = seed;
        for (int evening = 0; evening < m; evening++) {
            s = s * 6364136223846793005L + 1442695040888963407L;
            int r = next(s);
            int i = r / 8 % members;
            int j = r / 64 % wines;
            try {
                if (r % 8 < 5) {
                    x.drink(i, j, 1 + r / 1024 % 3);
                } else if (r % 8 == 5) {
                    x.cork(i, j);
                } else {
                    x.give(i, r / 1024 % members, j, 1);
                }
            } catch (IllegalArgumentException | IllegalStateException e) {
                continue;
            }
        }
        return 1000 * x.about(3) + x.about(8);
    }

    /** "any long"; "(with long overflow)" */
    private static void anySeed(Check check) {
        long[] seeds = {Long.MIN_VALUE, Long.MIN_VALUE + 1, -1, 0, 1, Integer.MAX_VALUE, 1L << 33, (1L << 33) - 1,
            Long.MAX_VALUE - 1, Long.MAX_VALUE};
        for (long seed : seeds) {
            check.due("seed " + seed, Clubs.rich().simulate(seed, 20), spent(Clubs.rich(), seed, 20));
        }
    }

    /** "If there are members and wines" */
    private static void withoutMembersOrWines(Check check) {
        check.due("nothing there", Clubs.empty().simulate(1, 99), 0);
        check.due("no wines", Check.loaded("Cm000b01b24").simulate(1, 99), 2);
        check.due("no members", Check.loaded("Cw0160b01b24").simulate(1, 99), 2);
        check.due("no bins", Check.loaded("Cm000w0160").simulate(1, 99), 0);
        check.due("one of each, nothing in the cellar", Check.loaded("Cm000w0160b01").simulate(1, 99), 1);
    }

    /** Finds a seed whose evenings are as wished. */
    private static long seedFor(Wish... wishes) {
        for (long seed = 0; seed < 1000000; seed++) {
            long x = seed;
            boolean all = true;
            for (Wish wish : wishes) {
                x = x * 6364136223846793005L + 1442695040888963407L;
                all = all && wish.holds(next(x));
            }
            if (all) {
                return seed;
            }
        }
        throw new IllegalStateException("no seed is as wished");
    }

    /** Member 0 has three bottles and member 1 has two, in bins of 4 and 1; no reserve; the third bin is empty. */
    private static CellarClub five() {
        CellarClub x = Check.loaded("Cm000m000w0105b04b01b01o0003o1002");
        x.allocate(0);
        x.deliver(0);
        return x;
    }

    private static Wish drinking(int kind, int i, int n) {
        return r -> r % 8 == kind && r / 8 % 2 == i && 1 + r / 1024 % 3 == n;
    }

    /** "0 to 4: drink(i, j, 1 + r / 1024 % 3)." */
    private static void drinksBy0To4(Check check) {
        for (int kind = 0; kind <= 4; kind++) {
            check.due("one is drunk by " + kind, five().simulate(seedFor(drinking(kind, 0, 1)), 1), 4002);
            check.due("two are drunk by " + kind, five().simulate(seedFor(drinking(kind, 0, 2)), 1), 3002);
            check.due("three are drunk by " + kind, five().simulate(seedFor(drinking(kind, 0, 3)), 1), 2002);
        }
    }

    /** "what is not possible is left out" */
    private static void whatIsNotPossible(Check check) {
        check.due("two of two", five().simulate(seedFor(drinking(0, 1, 2)), 1), 3002);
        check.due("three of two", five().simulate(seedFor(drinking(0, 1, 3)), 1), 5001);
        check.due("three of two, and then two of two",
                five().simulate(seedFor(drinking(4, 1, 3), drinking(4, 1, 2)), 2), 3002);
        check.due("two of two, and then one of none",
                five().simulate(seedFor(drinking(4, 1, 2), drinking(4, 1, 1)), 2), 3002);
        check.due("two of two, and then a cork of none",
                five().simulate(seedFor(drinking(4, 1, 2), r -> r % 8 == 5 && r / 8 % 2 == 1), 2), 3002);
        check.due("two of two, and then a gift of none", five().simulate(seedFor(drinking(4, 1, 2),
                giving(7, 1, 0), drinking(0, 0, 3)), 3), 3);
        check.due("a gift to itself, and then three of three", five().simulate(seedFor(giving(6, 0, 0),
                drinking(0, 0, 3)), 2), 2002);
    }

    /** "5: cork(i, j)." */
    private static void corksBy5(Check check) {
        long seed = seedFor(r -> r % 8 == 5 && r / 8 % 2 == 1);
        check.due("a cork without a reserve", five().simulate(seed, 1), 4002);
        CellarClub x = Check.loaded("Cm000m000w0106b04b01b01o0003o1002");
        x.allocate(0);
        x.deliver(0);
        check.due("a cork with a reserve", x.simulate(seed, 1), 5001);
        long twice = seedFor(r -> r % 8 == 5, r -> r % 8 == 5);
        check.due("a second cork without a reserve", x.simulate(twice, 2), 4002);
    }

    private static Wish giving(int kind, int i, int other) {
        return r -> r % 8 == kind && r / 8 % 2 == i && r / 1024 % 2 == other;
    }

    /** "6 and 7: give(i, r / 1024 % M, j, 1)." */
    private static void giftsBy6And7(Check check) {
        for (int kind = 6; kind <= 7; kind++) {
            check.due("a gift by " + kind + " leaves all there", five().simulate(seedFor(giving(kind, 0, 1)), 1), 5001);
            check.due("the other drinks three after a gift by " + kind,
                    five().simulate(seedFor(giving(kind, 0, 1), drinking(0, 1, 3)), 2), 2002);
            check.due("the giver does not drink three after a gift by " + kind,
                    five().simulate(seedFor(giving(kind, 0, 1), drinking(0, 0, 3)), 2), 5001);
        }
    }

    /** "the member i is r / 8 % M and the wine j is r / 64 % W" */
    private static void theLastMemberAndWine(Check check) {
        CellarClub x = Clubs.brimful();
        long last = seedFor(r -> r % 8 == 0 && r / 8 % 6 == 5 && r / 64 % 6 == 3 && r / 1024 % 3 == 2);
        check.due("member 5 drinks three of wine 3", x.simulate(last, 1), 189000);
        long none = seedFor(r -> r % 8 == 0 && r / 8 % 6 == 0 && r / 64 % 6 == 5);
        check.due("wine 5 is not in the cellar", x.simulate(none, 1), 192000);
        long first = seedFor(r -> r % 8 == 4 && r / 8 % 6 == 0 && r / 64 % 6 == 0 && r / 1024 % 3 == 0);
        check.due("member 0 drinks one of wine 0", x.simulate(first, 1), 191000);
        x.drink(5, 3, 7);
        check.due("three of one are left out", x.simulate(last, 1), 185000);
        check.due("99 evenings of all", Clubs.brimful().simulate(1, 99), spent(Clubs.brimful(), 1, 99));
    }

    /** "1000 * (the bottles in the cellar at the end) + (the number of empty bins at the end)" */
    private static void whatIsAnswered(Check check) {
        check.due("eight empty bins", Clubs.crowded().simulate(1, 1), 8);
        CellarClub x = Check.loaded("Cm000w0101b01b01o0001");
        x.allocate(0);
        x.deliver(0);
        check.due("all are gone", x.simulate(1, 99), 2);
        check.due("one is left", x.simulate(seedFor(r -> r % 8 == 7), 1), 1001);
        check.due("one is gone", x.simulate(seedFor(r -> r % 8 == 5), 1), 2);
    }

    /** "on a copy of the state" */
    private static void simulationsChangeNothing(Check check) {
        check.toldOnly("an evening", spent(Clubs.rich(), 3, 1), Clubs::rich, x -> x.simulate(3, 1));
        check.toldOnly("99 evenings", spent(Clubs.rich(), 3, 99), Clubs::rich, x -> x.simulate(3, 99));
        check.toldOnly("99 evenings of many", 8, Clubs::crowded, x -> x.simulate(3, 99));
        CellarClub x = Clubs.rich();
        check.due("the first time", x.simulate(9, 30), spent(Clubs.rich(), 9, 30));
        check.due("the second time", x.simulate(9, 30), spent(Clubs.rich(), 9, 30));
    }
}
