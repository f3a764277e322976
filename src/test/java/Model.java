import java.util.ArrayList;
import java.util.List;

/**
 * The document once more, written another way than the class: a bottle is an entry of a list, the text is compared
 * with lists of all that may stand there, and a copy of everything is made for each state.
 */
final class Model {
    static final class Person {
        int points;
        int owed;
        int drank;
    }

    static final class Label {
        int price;
        int bought;
        int reserve;
        int stage;
        int drunk;
        int corked;
        int[] ordered = new int[6];
        int[] allocated = new int[6];
        int[] inCellar = new int[6];
    }

    static final class Box {
        int size;
        List<Integer> bottles = new ArrayList<>();

        boolean holds(int w) {
            return !bottles.isEmpty() && bottles.get(0) == w;
        }

        int left() {
            return size - bottles.size();
        }
    }

    static final class World {
        List<Person> people = new ArrayList<>();
        List<Label> labels = new ArrayList<>();
        List<Box> boxes = new ArrayList<>();

        World copy() {
            World c = new World();
            for (Person p : people) {
                Person q = new Person();
                q.points = p.points;
                q.owed = p.owed;
                q.drank = p.drank;
                c.people.add(q);
            }
            for (Label l : labels) {
                Label k = new Label();
                k.price = l.price;
                k.bought = l.bought;
                k.reserve = l.reserve;
                k.stage = l.stage;
                k.drunk = l.drunk;
                k.corked = l.corked;
                k.ordered = l.ordered.clone();
                k.allocated = l.allocated.clone();
                k.inCellar = l.inCellar.clone();
                c.labels.add(k);
            }
            for (Box b : boxes) {
                Box d = new Box();
                d.size = b.size;
                d.bottles.addAll(b.bottles);
                c.boxes.add(d);
            }
            return c;
        }
    }

    private static final int NONE = -99999;

    private World now = new World();
    private List<World> past = new ArrayList<>();
    private final World[] slots = new World[2];
    private final StringBuilder text = new StringBuilder();

    private static void exists(boolean... all) {
        for (boolean one : all) {
            if (!one) {
                throw new IndexOutOfBoundsException();
            }
        }
    }

    private static void range(boolean... all) {
        for (boolean one : all) {
            if (!one) {
                throw new IllegalArgumentException();
            }
        }
    }

    private static void state(boolean... all) {
        for (boolean one : all) {
            if (!one) {
                throw new IllegalStateException();
            }
        }
    }

    private boolean isMember(int m) {
        return 0 <= m && m < now.people.size();
    }

    private boolean isWine(int w) {
        return 0 <= w && w < now.labels.size();
    }

    private boolean isBin(int b) {
        return 0 <= b && b < now.boxes.size();
    }

    private void remember() {
        past.add(now.copy());
        while (past.size() > 14) {
            past.remove(0);
        }
    }

    private int cellar() {
        int n = 0;
        for (Box b : now.boxes) {
            n += b.bottles.size();
        }
        return n;
    }

    private int emptyBoxes() {
        int n = 0;
        for (Box b : now.boxes) {
            n += b.bottles.isEmpty() ? 1 : 0;
        }
        return n;
    }

    private static int sum(int[] row) {
        int n = 0;
        for (int i : row) {
            n += i;
        }
        return n;
    }

    int append(int c) {
        range(0 <= c, c <= 255);
        state(text.length() < 120);
        text.append((char) c);
        return text.length();
    }

    int clearText() {
        int n = text.length();
        text.setLength(0);
        return n;
    }

    private static List<String> numbers(int digits, int from, int to) {
        List<String> all = new ArrayList<>();
        for (int i = from; i <= to; i++) {
            all.add(String.format("%0" + digits + "d", i));
        }
        return all;
    }

    private static final List<String> PER_1000 = numbers(3, 0, 999);
    private static final List<String> PRICES = numbers(2, 1, 99);
    private static final List<String> BOTTLES = numbers(2, 0, 60);
    private static final List<String> SIZES = numbers(2, 1, 24);

    private static List<List<String>> fields(char letter, World w) {
        List<List<String>> all = new ArrayList<>();
        if (letter == 'm' && w.people.size() < 6) {
            all.add(PER_1000);
        } else if (letter == 'w' && w.labels.size() < 6) {
            all.add(PRICES);
            all.add(BOTTLES);
        } else if (letter == 'b' && w.boxes.size() < 8) {
            all.add(SIZES);
        } else if (letter == 'o' && !w.people.isEmpty() && !w.labels.isEmpty()) {
            all.add(numbers(1, 0, w.people.size() - 1));
            all.add(numbers(1, 0, w.labels.size() - 1));
            all.add(BOTTLES);
        }
        return all;
    }

    private int parse(World w) {
        if (text.length() == 0 || text.charAt(0) != 'C') {
            return 0;
        }
        int at = 1;
        while (at < text.length()) {
            char letter = text.charAt(at);
            List<List<String>> fields = fields(letter, w);
            if (fields.isEmpty()) {
                return at;
            }
            at++;
            int[] told = new int[fields.size()];
            for (int f = 0; f < told.length; f++) {
                String part = "";
                while (!fields.get(f).contains(part)) {
                    if (at == text.length()) {
                        return at;
                    }
                    part += text.charAt(at);
                    boolean begins = false;
                    for (String one : fields.get(f)) {
                        begins |= one.startsWith(part);
                    }
                    if (!begins) {
                        return at;
                    }
                    at++;
                }
                told[f] = Integer.parseInt(part);
            }
            put(w, letter, told);
        }
        return NONE;
    }

    private static void put(World w, char letter, int[] told) {
        if (letter == 'm') {
            Person p = new Person();
            p.points = told[0];
            w.people.add(p);
        } else if (letter == 'w') {
            Label l = new Label();
            l.price = told[0];
            l.bought = told[1];
            l.reserve = told[1];
            w.labels.add(l);
        } else if (letter == 'b') {
            Box b = new Box();
            b.size = told[0];
            w.boxes.add(b);
        } else {
            w.labels.get(told[1]).ordered[told[0]] = told[2];
        }
    }

    int errorPosition() {
        return parse(new World());
    }

    int load() {
        World w = new World();
        state(parse(w) == NONE);
        now = w;
        past.clear();
        slots[0] = null;
        slots[1] = null;
        return now.people.size();
    }

    int about(int what) {
        range(0 <= what, what <= 9);
        int drunk = 0;
        int corked = 0;
        int reserves = 0;
        int owed = 0;
        int room = 0;
        for (Label l : now.labels) {
            drunk += l.drunk;
            corked += l.corked;
            reserves += l.reserve;
        }
        for (Person p : now.people) {
            owed += p.owed;
        }
        for (Box b : now.boxes) {
            room += b.left();
        }
        return new int[] {now.people.size(), now.labels.size(), now.boxes.size(), cellar(), drunk, corked, reserves,
            owed, emptyBoxes(), room}[what];
    }

    int member(int m, int what) {
        exists(isMember(m));
        range(0 <= what, what <= 3);
        Person p = now.people.get(m);
        int n = 0;
        for (Label l : now.labels) {
            n += l.inCellar[m];
        }
        return new int[] {p.points, p.owed, n, p.drank}[what];
    }

    int wine(int w, int what) {
        exists(isWine(w));
        range(0 <= what, what <= 8);
        Label l = now.labels.get(w);
        int inBoxes = 0;
        for (Box b : now.boxes) {
            inBoxes += b.holds(w) ? b.bottles.size() : 0;
        }
        return new int[] {l.price, l.bought, l.reserve, l.stage, inBoxes, l.drunk, l.corked, sum(l.allocated),
            sum(l.ordered)}[what];
    }

    int bin(int b, int what) {
        exists(isBin(b));
        range(0 <= what, what <= 2);
        Box box = now.boxes.get(b);
        return new int[] {box.size, box.bottles.isEmpty() ? NONE : box.bottles.get(0), box.bottles.size()}[what];
    }

    int has(int m, int w, int what) {
        exists(isMember(m), isWine(w));
        range(0 <= what, what <= 2);
        Label l = now.labels.get(w);
        return new int[] {l.ordered[m], l.allocated[m], l.inCellar[m]}[what];
    }

    int addMember(int points) {
        range(0 <= points, points <= 999);
        state(now.people.size() < 6);
        remember();
        put(now, 'm', new int[] {points});
        return now.people.size() - 1;
    }

    int addWine(int price, int bottles) {
        range(1 <= price, price <= 99, 0 <= bottles, bottles <= 60);
        state(now.labels.size() < 6);
        remember();
        put(now, 'w', new int[] {price, bottles});
        return now.labels.size() - 1;
    }

    int addBin(int size) {
        range(1 <= size, size <= 24);
        state(now.boxes.size() < 8);
        remember();
        put(now, 'b', new int[] {size});
        return now.boxes.size() - 1;
    }

    int order(int m, int w, int n) {
        exists(isMember(m), isWine(w));
        range(0 <= n, n <= 60);
        Label l = now.labels.get(w);
        state(l.stage == 0);
        remember();
        int old = l.ordered[m];
        l.ordered[m] = n;
        return old;
    }

    /** All quotients of all members, sorted: the first ones get the bottles. */
    private int[] shares(int w) {
        Label l = now.labels.get(w);
        List<long[]> queue = new ArrayList<>();
        for (int m = 0; m < now.people.size(); m++) {
            for (int got = 0; got < l.ordered[m]; got++) {
                queue.add(new long[] {now.people.get(m).points + 1, got + 1, m});
            }
        }
        queue.sort((a, b) -> {
            int by = Long.compare(b[0] * a[1], a[0] * b[1]);
            return by != 0 ? by : Long.compare(a[2], b[2]);
        });
        int[] shares = new int[6];
        for (int i = 0; i < queue.size() && i < l.reserve; i++) {
            shares[(int) queue.get(i)[2]]++;
        }
        return shares;
    }

    int allocate(int w) {
        exists(isWine(w));
        Label l = now.labels.get(w);
        state(l.stage == 0);
        remember();
        int[] shares = shares(w);
        for (int m = 0; m < now.people.size(); m++) {
            Person p = now.people.get(m);
            int cost = shares[m] * l.price;
            p.owed += cost / 2 + cost % 2;
            p.points = p.points + shares[m] > 999 ? 999 : p.points + shares[m];
        }
        l.allocated = shares;
        l.reserve -= sum(shares);
        l.ordered = new int[6];
        l.stage = 1;
        return sum(shares);
    }

    private int space(int w) {
        int n = 0;
        for (Box b : now.boxes) {
            n += b.holds(w) || b.bottles.isEmpty() ? b.left() : 0;
        }
        return n;
    }

    private void lay(int w, int n) {
        List<Box> started = new ArrayList<>();
        List<Box> empty = new ArrayList<>();
        for (Box b : now.boxes) {
            (b.holds(w) ? started : empty).add(b);
        }
        empty.removeIf(b -> !b.bottles.isEmpty());
        started.sort((a, b) -> a.left() - b.left());
        empty.sort((a, b) -> a.size - b.size);
        List<Box> fromGreatest = new ArrayList<>(empty);
        fromGreatest.sort((a, b) -> b.size != a.size ? b.size - a.size
                : now.boxes.indexOf(a) - now.boxes.indexOf(b));
        for (Box b : started) {
            n = fill(b, w, n);
        }
        while (n > 0) {
            Box into = fromGreatest.get(0);
            for (Box b : empty) {
                if (b.size >= n) {
                    into = b;
                    break;
                }
            }
            empty.remove(into);
            fromGreatest.remove(into);
            n = fill(into, w, n);
        }
    }

    private static int fill(Box b, int w, int n) {
        int left = n;
        while (left > 0 && b.left() > 0) {
            b.bottles.add(w);
            left--;
        }
        return left;
    }

    private void take(int w, int n) {
        for (int i = 0; i < n; i++) {
            Box from = null;
            for (int b = now.boxes.size() - 1; b >= 0; b--) {
                Box box = now.boxes.get(b);
                if (box.holds(w) && (from == null || box.bottles.size() < from.bottles.size())) {
                    from = box;
                }
            }
            from.bottles.remove(0);
        }
    }

    int deliver(int w) {
        exists(isWine(w));
        Label l = now.labels.get(w);
        state(l.stage == 1, sum(l.allocated) <= space(w));
        remember();
        for (int m = 0; m < now.people.size(); m++) {
            int cost = l.allocated[m] * l.price;
            now.people.get(m).owed += cost / 2;
        }
        int n = sum(l.allocated);
        lay(w, n);
        l.inCellar = l.allocated;
        l.allocated = new int[6];
        l.stage = 2;
        return n;
    }

    int drink(int m, int w, int n) {
        exists(isMember(m), isWine(w));
        range(1 <= n, n <= 60);
        Label l = now.labels.get(w);
        state(l.inCellar[m] >= n);
        remember();
        l.inCellar[m] -= n;
        l.drunk += n;
        now.people.get(m).drank += n;
        take(w, n);
        return l.inCellar[m];
    }

    int give(int m, int other, int w, int n) {
        exists(isMember(m), isMember(other), isWine(w));
        range(m != other, 1 <= n, n <= 60);
        Label l = now.labels.get(w);
        state(l.inCellar[m] >= n);
        remember();
        l.inCellar[m] -= n;
        l.inCellar[other] += n;
        return l.inCellar[other];
    }

    int cork(int m, int w) {
        exists(isMember(m), isWine(w));
        Label l = now.labels.get(w);
        state(l.inCellar[m] >= 1);
        remember();
        take(w, 1);
        l.corked++;
        if (l.reserve == 0) {
            l.inCellar[m]--;
            now.people.get(m).owed -= l.price;
            return 0;
        }
        l.reserve--;
        lay(w, 1);
        return 1;
    }

    int move(int b, int to, int n) {
        exists(isBin(b), isBin(to));
        range(b != to, 1 <= n, n <= 24);
        Box from = now.boxes.get(b);
        Box into = now.boxes.get(to);
        state(from.bottles.size() >= n);
        state(into.bottles.isEmpty() || into.holds(from.bottles.get(0)), into.left() >= n);
        remember();
        for (int i = 0; i < n; i++) {
            into.bottles.add(from.bottles.remove(0));
        }
        return into.bottles.size();
    }

    int pay(int m) {
        exists(isMember(m));
        remember();
        int owed = now.people.get(m).owed;
        now.people.get(m).owed = 0;
        return owed;
    }

    int undo() {
        state(!past.isEmpty());
        now = past.remove(past.size() - 1);
        return past.size();
    }

    int wouldGet(int m, int w) {
        exists(isMember(m), isWine(w));
        return now.labels.get(w).stage == 0 ? shares(w)[m] : NONE;
    }

    int roomFor(int w) {
        exists(isWine(w));
        return space(w);
    }

    int fewestBins() {
        int[] need = new int[6];
        for (int w = 0; w < now.labels.size(); w++) {
            need[w] = sum(now.labels.get(w).inCellar);
        }
        return fewest(0, 0, need, now.boxes.size());
    }

    /** Each bin is for one of the wines that still need room, or for none. */
    private int fewest(int b, int used, int[] need, int best) {
        boolean ready = true;
        for (int n : need) {
            ready &= n <= 0;
        }
        if (ready) {
            return Math.min(used, best);
        }
        if (b == now.boxes.size() || used >= best) {
            return best;
        }
        int found = fewest(b + 1, used, need, best);
        for (int w = 0; w < 6; w++) {
            if (need[w] > 0) {
                need[w] -= now.boxes.get(b).size;
                found = Math.min(found, fewest(b + 1, used + 1, need, found));
                need[w] += now.boxes.get(b).size;
            }
        }
        return found;
    }

    int shortest(int w) {
        exists(isWine(w));
        Label l = now.labels.get(w);
        int most = 0;
        int who = NONE;
        if (l.stage == 0) {
            for (int m = now.people.size() - 1; m >= 0; m--) {
                int lost = l.ordered[m] - shares(w)[m];
                if (lost > 0 && lost >= most) {
                    most = lost;
                    who = m;
                }
            }
        }
        return who;
    }

    /** A model of its own on a copy of the state, so that scripts can be run by the calls of the face. */
    private Model aside() {
        Model other = new Model();
        other.now = now.copy();
        return other;
    }

    int runScript(int n, long script) {
        range(1 <= n, n <= 3, script >= 0);
        String digits = String.valueOf(script);
        range(digits.length() <= 5 * n);
        while (digits.length() < 5 * n) {
            digits = "0" + digits;
        }
        Model other = aside();
        for (int i = 0; i < n; i++) {
            if (!other.follows(digits.substring(5 * i, 5 * i + 5))) {
                return i;
            }
        }
        return NONE;
    }

    private boolean follows(String d) {
        int m = d.charAt(1) - '0';
        int w = d.charAt(2) - '0';
        int o = d.charAt(3) - '0';
        int n = d.charAt(4) - '0';
        int xy = Integer.parseInt(d.substring(3));
        try {
            switch (d.charAt(0)) {
                case '1' -> order(m, w, xy);
                case '2' -> {
                    range(d.endsWith("000"));
                    allocate(m);
                }
                case '3' -> {
                    range(d.endsWith("000"));
                    deliver(m);
                }
                case '4' -> drink(m, w, xy);
                case '5' -> give(m, w, o, n);
                case '6' -> {
                    range(d.endsWith("00"));
                    cork(m, w);
                }
                case '7' -> move(m, w, xy);
                case '8' -> state(has(m, w, 2) >= xy);
                case '9' -> {
                    range(d.startsWith("9000"));
                    state(emptyBoxes() >= n);
                }
                default -> state(false);
            }
        } catch (RuntimeException e) {
            return false;
        }
        return true;
    }

    int simulate(long seed, int m) {
        range(1 <= m, m <= 99);
        Model other = aside();
        long x = seed;
        for (int i = 0; i < m; i++) {
            x = x * 6364136223846793005L + 1442695040888963407L;
            int r = (int) (x >>> 33);
            if (now.people.isEmpty() || now.labels.isEmpty()) {
                continue;
            }
            int who = r / 8 % now.people.size();
            int what = r / 64 % now.labels.size();
            try {
                switch (r % 8) {
                    case 5 -> other.cork(who, what);
                    case 6, 7 -> other.give(who, r / 1024 % now.people.size(), what, 1);
                    default -> other.drink(who, what, 1 + r / 1024 % 3);
                }
            } catch (RuntimeException e) {
                continue;
            }
        }
        return 1000 * other.cellar() + other.emptyBoxes();
    }

    int save(int slot) {
        exists(slot == 0 || slot == 1);
        slots[slot] = now.copy();
        return cellar();
    }

    int restore(int slot) {
        exists(slot == 0 || slot == 1);
        state(slots[slot] != null);
        now = slots[slot].copy();
        past.clear();
        return cellar();
    }
}
