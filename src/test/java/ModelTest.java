import java.lang.reflect.InvocationTargetException;
import java.lang.reflect.Method;
import java.util.Arrays;
import java.util.Random;

/** All promises: runs of many calls, the same on the class and on the model. The seeds are fixed. */
public final class ModelTest {
    private static final int RUNS = 4000;
    private static final int CALLS = 512;

    private static final String[] OFTEN = {"order", "order", "order", "allocate", "deliver", "drink", "drink", "give",
        "cork", "cork", "move", "move", "pay", "undo", "addMember", "addWine", "addBin"};
    private static final String[] ASKING = {"errorPosition", "about", "member", "wine", "bin", "has", "wouldGet",
        "roomFor", "fewestBins", "shortest", "runScript", "simulate", "save"};
    private static final String[] SELDOM = {"load", "restore", "clearText", "append"};
    private static final int[] EDGES = {Integer.MIN_VALUE, -99999, -2, -1, 61, 100, 255, 256, 1000, Integer.MAX_VALUE};

    private final Random random;
    private final CellarClub club = new CellarClub();
    private final Model model = new Model();
    private final StringBuilder told = new StringBuilder();
    private int calls;
    private int answered;

    private ModelTest(long seed) {
        random = new Random(seed);
    }

    public static void main(String[] args) throws Exception {
        int answered = 0;
        int calls = 0;
        for (int run = 0; run < RUNS; run++) {
            ModelTest test = new ModelTest(run);
            if (!test.goesWell()) {
                System.out.println("run " + run + ": " + test.told);
                System.exit(1);
            }
            answered += test.answered;
            calls += test.calls;
        }
        System.out.println(calls + " calls compared, of which " + answered + " did not throw");
    }

    private boolean goesWell() throws Exception {
        if (random.nextInt(8) != 0 && !(writeText() && same("errorPosition") && same("load"))) {
            return false;
        }
        boolean calm = random.nextBoolean();
        while (calls < CALLS) {
            if (!someCall(calm ? 1000 : 20)) {
                return false;
            }
        }
        return true;
    }

    private boolean someCall(int oneOddIn) throws Exception {
        int kind = random.nextInt(100);
        if (kind == 99 && random.nextInt(10) == 0 && calls + 130 < CALLS) {
            return same("clearText") && writeText() && same("errorPosition") && same("load");
        }
        String[] names = kind < 50 ? OFTEN : kind < 97 ? ASKING : SELDOM;
        String name = names[random.nextInt(names.length)];
        if (names == SELDOM && random.nextInt(4) != 0) {
            name = "restore";
        }
        long[] args = arguments(name);
        for (int i = 0; i < args.length; i++) {
            if (random.nextInt(oneOddIn) == 0) {
                args[i] = EDGES[random.nextInt(EDGES.length)];
            }
        }
        return same(name, args);
    }

    private int member() {
        return random.nextInt(Math.max(1, model.about(0)));
    }

    private int wine() {
        return random.nextInt(Math.max(1, model.about(1)));
    }

    private int bin() {
        return random.nextInt(Math.max(1, model.about(2)));
    }

    private int few() {
        return 1 + random.nextInt(random.nextInt(5) == 0 ? 20 : 4);
    }

    private long[] arguments(String name) {
        switch (name) {
            case "append":
                return new long[] {random.nextInt(256)};
            case "about":
                return new long[] {random.nextInt(10)};
            case "member":
                return new long[] {member(), random.nextInt(4)};
            case "wine":
                return new long[] {wine(), random.nextInt(9)};
            case "bin":
                return new long[] {bin(), random.nextInt(3)};
            case "has":
                return new long[] {member(), wine(), random.nextInt(3)};
            case "addMember":
                return new long[] {random.nextInt(random.nextBoolean() ? 1000 : 12)};
            case "addWine":
                return new long[] {1 + random.nextInt(99), random.nextInt(61)};
            case "addBin":
                return new long[] {1 + random.nextInt(24)};
            case "order":
                return new long[] {member(), wine(), random.nextInt(random.nextBoolean() ? 61 : 12)};
            case "drink":
                return new long[] {member(), wine(), few()};
            case "give":
                return new long[] {member(), member(), wine(), few()};
            case "cork":
            case "wouldGet":
                return new long[] {member(), wine()};
            case "move":
                return new long[] {bin(), bin(), few()};
            case "pay":
                return new long[] {member()};
            case "allocate":
            case "deliver":
            case "roomFor":
            case "shortest":
                return new long[] {wine()};
            case "runScript":
                return script();
            case "simulate":
                return new long[] {random.nextLong(), 1 + random.nextInt(99)};
            case "save":
            case "restore":
                return new long[] {random.nextInt(2)};
            default:
                return new long[0];
        }
    }

    private long[] script() {
        int n = 1 + random.nextInt(3);
        long script = 0;
        for (int i = 0; i < n; i++) {
            script = script * 100000 + command();
        }
        if (random.nextInt(30) == 0) {
            script = random.nextLong() >>> random.nextInt(64);
        }
        return new long[] {random.nextInt(30) == 0 ? 1 + random.nextInt(3) : n, script};
    }

    private int command() {
        int few = random.nextInt(6);
        int group = switch (1 + random.nextInt(9)) {
            case 1 -> 10000 + 1000 * member() + 100 * wine() + random.nextInt(62);
            case 2 -> 20000 + 1000 * wine();
            case 3 -> 30000 + 1000 * wine();
            case 4 -> 40000 + 1000 * member() + 100 * wine() + few;
            case 5 -> 50000 + 1000 * member() + 100 * member() + 10 * wine() + few;
            case 6 -> 60000 + 1000 * member() + 100 * wine();
            case 7 -> 70000 + 1000 * bin() + 100 * bin() + few;
            case 8 -> 80000 + 1000 * member() + 100 * wine() + few;
            default -> 90000 + few;
        };
        if (random.nextInt(12) == 0) {
            int unit = new int[] {1, 10, 100, 1000, 10000}[random.nextInt(5)];
            group = (group + unit) % 100000;
        }
        return group;
    }

    private boolean writeText() throws Exception {
        String text = text();
        for (int i = 0; i < text.length() && calls < CALLS - 3; i++) {
            if (!same("append", text.charAt(i))) {
                return false;
            }
        }
        return true;
    }

    /** Mostly a club; now and then with a character changed, put in or left out, or with the end cut off. */
    private String text() {
        StringBuilder s = new StringBuilder("C");
        int m = random.nextInt(7);
        int w = random.nextInt(7);
        int b = random.nextInt(9);
        int o = random.nextInt(9);
        int membersTold = 0;
        int winesTold = 0;
        while (m + w + b + o > 0) {
            switch (random.nextInt(4)) {
                case 0:
                    if (m > 0) {
                        s.append(String.format("m%03d", random.nextInt(random.nextBoolean() ? 1000 : 20)));
                        m--;
                        membersTold++;
                    }
                    break;
                case 1:
                    if (w > 0) {
                        s.append(String.format("w%02d%02d", 1 + random.nextInt(99), random.nextInt(61)));
                        w--;
                        winesTold++;
                    }
                    break;
                case 2:
                    if (b > 0) {
                        s.append(String.format("b%02d", 1 + random.nextInt(24)));
                        b--;
                    }
                    break;
                default:
                    if (o > 0 && membersTold > 0 && winesTold > 0) {
                        s.append(String.format("o%d%d%02d", random.nextInt(membersTold), random.nextInt(winesTold),
                                random.nextInt(61)));
                    }
                    o = Math.max(0, o - 1);
            }
        }
        if (random.nextInt(5) == 0) {
            spoil(s);
        }
        return s.toString();
    }

    private void spoil(StringBuilder s) {
        int at = random.nextInt(s.length());
        char sign = "0123456789mwboC m\u00ff".charAt(random.nextInt(18));
        switch (random.nextInt(4)) {
            case 0 -> s.setCharAt(at, sign);
            case 1 -> s.insert(at, sign);
            case 2 -> s.deleteCharAt(at);
            default -> s.setLength(at);
        }
    }

    private boolean same(String name, long... args) throws Exception {
        calls++;
        String fromClub = outcome(club, CellarClub.class, name, args);
        String fromModel = outcome(model, Model.class, name, args);
        told.append(name).append(Arrays.toString(args)).append(" = ").append(fromClub).append("; ");
        if (!fromClub.equals(fromModel)) {
            told.append("due is ").append(fromModel);
            return false;
        }
        answered += fromClub.startsWith("throws.") ? 0 : 1;
        return true;
    }

    private static String outcome(Object on, Class<?> kind, String name, long[] args) throws Exception {
        Method method = find(kind, name);
        Object[] all = new Object[args.length];
        for (int i = 0; i < args.length; i++) {
            all[i] = method.getParameterTypes()[i] == long.class ? (Object) args[i] : (Object) (int) args[i];
        }
        try {
            return String.valueOf(method.invoke(on, all));
        } catch (InvocationTargetException e) {
            return "throws." + e.getCause().getClass().getSimpleName();
        }
    }

    private static final java.util.Map<String, Method> FOUND = new java.util.HashMap<>();

    private static Method find(Class<?> kind, String name) {
        String key = kind.getName() + "." + name;
        if (!FOUND.containsKey(key)) {
            for (Method method : kind.getDeclaredMethods()) {
                if (method.getName().equals(name)) {
                    FOUND.put(key, method);
                }
            }
        }
        return FOUND.get(key);
    }
}
