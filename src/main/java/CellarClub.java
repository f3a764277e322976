/** A wine cellar club: members, wines allocated by points, and bins in which the bottles lie. */
public final class CellarClub {
    public static final int NONE = -99999;

    private static final int MOST_MEMBERS = 6;
    private static final int MOST_WINES = 6;
    private static final int MOST_BINS = 8;
    private static final int MOST_POINTS = 999;
    private static final int MOST_PRICE = 99;
    private static final int MOST_BOTTLES = 60;
    private static final int MOST_SIZE = 24;
    private static final int MOST_TEXT = 120;
    private static final int MOST_REMEMBERED = 14;
    private static final int MOST_COMMANDS = 3;
    private static final int MOST_EVENINGS = 99;
    private static final int SLOTS = 2;

    private static final int OPEN = 0;
    private static final int ALLOCATED = 1;
    private static final int DELIVERED = 2;

    // What speaks against a call: a fault is asked for before anything changes.
    private static final int FINE = 0;
    private static final int NO_SUCH = 1;
    private static final int OUT_OF_RANGE = 2;
    private static final int NOT_NOW = 3;

    private final Club club;
    private final Text text;
    private final History history;
    private final Rehearsal rehearsal;
    private final Packing packing;
    private final Club[] slots;
    private final boolean[] slotFilled;

    public CellarClub() {
        club = new Club();
        text = new Text();
        history = new History();
        rehearsal = new Rehearsal();
        packing = new Packing();
        slots = new Club[SLOTS];
        for (int slot = 0; slot < SLOTS; slot++) {
            slots[slot] = new Club();
        }
        slotFilled = new boolean[SLOTS];
    }

    // ---- text

    public int append(int c) throws IllegalArgumentException, IllegalStateException {
        check(text.addingFault(c));
        return text.add((char) c);
    }

    public int clearText() {
        return text.wipe();
    }

    public int errorPosition() {
        return text.read();
    }

    public int load() throws IllegalStateException {
        check(text.read() == NONE ? FINE : NOT_NOW);
        club.copyFrom(text.told);
        history.forgetAll();
        for (int slot = 0; slot < SLOTS; slot++) {
            slotFilled[slot] = false;
        }
        return club.members;
    }

    // ---- what there is

    public int about(int what) throws IllegalArgumentException {
        check(rangeFault(what, 0, 9));
        return club.factOfAll(what);
    }

    public int member(int m, int what) throws IndexOutOfBoundsException, IllegalArgumentException {
        check(club.knowsMember(m) ? rangeFault(what, 0, 3) : NO_SUCH);
        return club.factOfMember(m, what);
    }

    public int wine(int w, int what) throws IndexOutOfBoundsException, IllegalArgumentException {
        check(club.knowsWine(w) ? rangeFault(what, 0, 8) : NO_SUCH);
        return club.factOfWine(w, what);
    }

    public int bin(int b, int what) throws IndexOutOfBoundsException, IllegalArgumentException {
        check(club.rack.knows(b) ? rangeFault(what, 0, 2) : NO_SUCH);
        return club.rack.factOf(b, what);
    }

    public int has(int m, int w, int what) throws IndexOutOfBoundsException, IllegalArgumentException {
        check(club.knowsBoth(m, w) ? rangeFault(what, 0, 2) : NO_SUCH);
        return club.factOfBoth(m, w, what);
    }

    // ---- actions

    public int addMember(int points) throws IllegalArgumentException, IllegalStateException {
        check(club.memberFault(points));
        history.remember(club);
        return club.enrol(points);
    }

    public int addWine(int price, int bottles) throws IllegalArgumentException, IllegalStateException {
        check(club.wineFault(price, bottles));
        history.remember(club);
        return club.offer(price, bottles);
    }

    public int addBin(int size) throws IllegalArgumentException, IllegalStateException {
        check(club.rack.binFault(size));
        history.remember(club);
        return club.rack.install(size);
    }

    public int order(int m, int w, int n)
            throws IndexOutOfBoundsException, IllegalArgumentException, IllegalStateException {
        check(club.orderFault(m, w, n));
        history.remember(club);
        return club.changeOrder(m, w, n);
    }

    public int allocate(int w) throws IndexOutOfBoundsException, IllegalStateException {
        check(club.allocationFault(w));
        history.remember(club);
        return club.shareOut(w);
    }

    public int deliver(int w) throws IndexOutOfBoundsException, IllegalStateException {
        check(club.deliveryFault(w));
        history.remember(club);
        return club.bringIn(w);
    }

    public int drink(int m, int w, int n)
            throws IndexOutOfBoundsException, IllegalArgumentException, IllegalStateException {
        check(club.drinkFault(m, w, n));
        history.remember(club);
        return club.drinkUp(m, w, n);
    }

    public int give(int m, int other, int w, int n)
            throws IndexOutOfBoundsException, IllegalArgumentException, IllegalStateException {
        check(club.giftFault(m, other, w, n));
        history.remember(club);
        return club.handOver(m, other, w, n);
    }

    public int cork(int m, int w) throws IndexOutOfBoundsException, IllegalStateException {
        check(club.corkFault(m, w));
        history.remember(club);
        return club.replaceCorked(m, w);
    }

    public int move(int b, int to, int n)
            throws IndexOutOfBoundsException, IllegalArgumentException, IllegalStateException {
        check(club.rack.carryFault(b, to, n));
        history.remember(club);
        return club.rack.carry(b, to, n);
    }

    public int pay(int m) throws IndexOutOfBoundsException {
        check(club.knowsMember(m) ? FINE : NO_SUCH);
        history.remember(club);
        return club.settle(m);
    }

    public int undo() throws IllegalStateException {
        check(history.count > 0 ? FINE : NOT_NOW);
        return history.takeBack(club);
    }

    // ---- what would be

    public int wouldGet(int m, int w) throws IndexOutOfBoundsException {
        check(club.knowsBoth(m, w) ? FINE : NO_SUCH);
        if (club.stage[w] != OPEN) {
            return NONE;
        }
        rehearsal.begin(club);
        rehearsal.allocates(w);
        return rehearsal.copy.allotted.of(m, w);
    }

    public int roomFor(int w) throws IndexOutOfBoundsException {
        check(club.knowsWine(w) ? FINE : NO_SUCH);
        return club.rack.roomForWine(w);
    }

    public int fewestBins() {
        return packing.fewest(club);
    }

    public int shortest(int w) throws IndexOutOfBoundsException {
        check(club.knowsWine(w) ? FINE : NO_SUCH);
        if (club.stage[w] != OPEN) {
            return NONE;
        }
        rehearsal.begin(club);
        rehearsal.allocates(w);
        int loser = NONE;
        int greatestLoss = 0;
        for (int m = 0; m < club.members; m++) {
            int loss = club.ordered.of(m, w) - rehearsal.copy.allotted.of(m, w);
            if (loss > greatestLoss) {
                loser = m;
                greatestLoss = loss;
            }
        }
        return loser;
    }

    // ---- scripts, simulations

    public int runScript(int n, long script) throws IllegalArgumentException {
        check(scriptFault(n, script));
        rehearsal.begin(club);
        for (int i = 0; i < n; i++) {
            if (!rehearsal.obeys(groupAt(script, n - 1 - i))) {
                return i;
            }
        }
        return NONE;
    }

    public int simulate(long seed, int m) throws IllegalArgumentException {
        check(rangeFault(m, 1, MOST_EVENINGS));
        rehearsal.begin(club);
        long x = seed;
        for (int evening = 0; evening < m; evening++) {
            x = x * 6364136223846793005L + 1442695040888963407L;
            rehearsal.spendEvening((int) (x >>> 33));
        }
        return 1000 * rehearsal.copy.cellared.ofAll() + rehearsal.copy.rack.emptyBins();
    }

    // ---- save slots

    public int save(int slot) throws IndexOutOfBoundsException {
        check(isSlot(slot) ? FINE : NO_SUCH);
        slots[slot].copyFrom(club);
        slotFilled[slot] = true;
        return club.cellared.ofAll();
    }

    public int restore(int slot) throws IndexOutOfBoundsException, IllegalStateException {
        check(restoreFault(slot));
        club.copyFrom(slots[slot]);
        history.forgetAll();
        return club.cellared.ofAll();
    }

    // ---- what the calls above have in common

    private static void check(int fault) {
        if (fault == NO_SUCH) {
            throw new IndexOutOfBoundsException("no such member, wine, bin or save slot");
        }
        if (fault == OUT_OF_RANGE) {
            throw new IllegalArgumentException("an argument is out of its range");
        }
        if (fault == NOT_NOW) {
            throw new IllegalStateException("the present state does not allow this");
        }
    }

    private static int rangeFault(int number, int least, int most) {
        return number < least || number > most ? OUT_OF_RANGE : FINE;
    }

    private static boolean isSlot(int slot) {
        return slot >= 0 && slot < SLOTS;
    }

    private int restoreFault(int slot) {
        if (!isSlot(slot)) {
            return NO_SUCH;
        }
        return slotFilled[slot] ? FINE : NOT_NOW;
    }

    private static int scriptFault(int n, long script) {
        if (n < 1 || n > MOST_COMMANDS || script < 0) {
            return OUT_OF_RANGE;
        }
        long tooMuch = 1;
        for (int i = 0; i < n; i++) {
            tooMuch = tooMuch * 100000;
        }
        return script < tooMuch ? FINE : OUT_OF_RANGE;
    }

    /** The group that has so many groups to its right. */
    private static int groupAt(long script, int groupsBehind) {
        long rest = script;
        for (int i = 0; i < groupsBehind; i++) {
            rest = rest / 100000;
        }
        return (int) (rest % 100000);
    }

    /** A number of bottles for each member and each wine. */
    private static final class Table {
        private final int[] cells = new int[MOST_MEMBERS * MOST_WINES];

        int of(int m, int w) {
            return cells[m * MOST_WINES + w];
        }

        void put(int m, int w, int n) {
            cells[m * MOST_WINES + w] = n;
        }

        void add(int m, int w, int n) {
            cells[m * MOST_WINES + w] += n;
        }

        int ofMember(int m) {
            int sum = 0;
            for (int w = 0; w < MOST_WINES; w++) {
                sum += of(m, w);
            }
            return sum;
        }

        int ofWine(int w) {
            int sum = 0;
            for (int m = 0; m < MOST_MEMBERS; m++) {
                sum += of(m, w);
            }
            return sum;
        }

        int ofAll() {
            return sumOf(cells);
        }

        void copyFrom(Table other) {
            copyRow(other.cells, cells);
        }
    }

    private static int sumOf(int[] row) {
        int sum = 0;
        for (int i = 0; i < row.length; i++) {
            sum += row[i];
        }
        return sum;
    }

    private static void copyRow(int[] from, int[] to) {
        System.arraycopy(from, 0, to, 0, Math.min(from.length, to.length));
    }

    /** The bins and the bottles in them. A bin without bottles has the wine NONE. */
    private static final class Rack {
        private int bins;
        private final int[] size = new int[MOST_BINS];
        private final int[] wineIn = new int[MOST_BINS];
        private final int[] bottles = new int[MOST_BINS];

        boolean knows(int b) {
            return b >= 0 && b < bins;
        }

        int factOf(int b, int what) {
            switch (what) {
                case 0:
                    return size[b];
                case 1:
                    return wineIn[b];
                default:
                    return bottles[b];
            }
        }

        int binFault(int newSize) {
            if (newSize < 1 || newSize > MOST_SIZE) {
                return OUT_OF_RANGE;
            }
            return bins < MOST_BINS ? FINE : NOT_NOW;
        }

        int install(int newSize) {
            int b = bins;
            size[b] = newSize;
            wineIn[b] = NONE;
            bins++;
            return b;
        }

        int emptyBins() {
            int empty = 0;
            for (int b = 0; b < bins; b++) {
                if (bottles[b] == 0) {
                    empty++;
                }
            }
            return empty;
        }

        int roomIn(int b) {
            return size[b] - bottles[b];
        }

        int roomInAll() {
            int room = 0;
            for (int b = 0; b < bins; b++) {
                room += roomIn(b);
            }
            return room;
        }

        boolean takesWine(int b, int w) {
            return bottles[b] == 0 || wineIn[b] == w;
        }

        int roomForWine(int w) {
            int room = 0;
            for (int b = 0; b < bins; b++) {
                if (takesWine(b, w)) {
                    room += roomIn(b);
                }
            }
            return room;
        }

        /** Lays n bottles into the bins, for which there must be room. */
        void lay(int w, int n) {
            int left = n;
            // Each turn fills a bin or ends the work, so there are no more turns than bins.
            for (int turn = 0; turn < bins && left > 0; turn++) {
                int b = binToFillUp(w);
                if (b == NONE) {
                    b = emptyBinFor(left);
                }
                if (b == NONE) {
                    return;
                }
                int laid = Math.min(left, roomIn(b));
                putInto(b, w, laid);
                left -= laid;
            }
        }

        private int binToFillUp(int w) {
            int best = NONE;
            for (int b = 0; b < bins; b++) {
                boolean fits = bottles[b] > 0 && wineIn[b] == w && roomIn(b) > 0;
                if (fits && (best == NONE || roomIn(b) < roomIn(best))) {
                    best = b;
                }
            }
            return best;
        }

        private int emptyBinFor(int n) {
            int best = NONE;
            for (int b = 0; b < bins; b++) {
                if (bottles[b] == 0 && (best == NONE || suitsBetter(size[b], size[best], n))) {
                    best = b;
                }
            }
            return best;
        }

        /** Of sizes that have room for all n the smaller one is better, of others the greater one. */
        private static boolean suitsBetter(int newSize, int oldSize, int n) {
            if (oldSize >= n) {
                return newSize >= n && newSize < oldSize;
            }
            return newSize > oldSize;
        }

        /** Takes n bottles, which must be there, from the bins. */
        void take(int w, int n) {
            int left = n;
            // Each turn empties a bin or ends the work, so there are no more turns than bins.
            for (int turn = 0; turn < bins && left > 0; turn++) {
                int b = binToTakeFrom(w);
                if (b == NONE) {
                    return;
                }
                int taken = Math.min(left, bottles[b]);
                removeFrom(b, taken);
                left -= taken;
            }
        }

        private int binToTakeFrom(int w) {
            int best = NONE;
            for (int b = 0; b < bins; b++) {
                boolean fits = bottles[b] > 0 && wineIn[b] == w;
                if (fits && (best == NONE || bottles[b] <= bottles[best])) {
                    best = b;
                }
            }
            return best;
        }

        int carryFault(int b, int to, int n) {
            if (!knows(b) || !knows(to)) {
                return NO_SUCH;
            }
            if (b == to || n < 1 || n > MOST_SIZE) {
                return OUT_OF_RANGE;
            }
            if (bottles[b] < n || !takesWine(to, wineIn[b]) || roomIn(to) < n) {
                return NOT_NOW;
            }
            return FINE;
        }

        int carry(int b, int to, int n) {
            putInto(to, wineIn[b], n);
            removeFrom(b, n);
            return bottles[to];
        }

        private void putInto(int b, int w, int n) {
            wineIn[b] = w;
            bottles[b] += n;
        }

        private void removeFrom(int b, int n) {
            bottles[b] -= n;
            if (bottles[b] == 0) {
                wineIn[b] = NONE;
            }
        }

        void copyFrom(Rack other) {
            bins = other.bins;
            copyRow(other.size, size);
            copyRow(other.wineIn, wineIn);
            copyRow(other.bottles, bottles);
        }
    }

    /**
     * One state of the club: everything but the text, the remembered states and the save slots.
     * What the rows hold behind the last member, wine or bin is 0, so sums may go over whole rows.
     */
    private static final class Club {
        private int members;
        private int wines;
        private final int[] points = new int[MOST_MEMBERS];
        private final int[] owed = new int[MOST_MEMBERS];
        private final int[] price = new int[MOST_WINES];
        private final int[] bought = new int[MOST_WINES];
        private final int[] reserve = new int[MOST_WINES];
        private final int[] stage = new int[MOST_WINES];
        private final int[] corked = new int[MOST_WINES];
        private final Table ordered = new Table();
        private final Table allotted = new Table();
        private final Table cellared = new Table();
        private final Table drunk = new Table();
        private final Rack rack = new Rack();

        boolean knowsMember(int m) {
            return m >= 0 && m < members;
        }

        boolean knowsWine(int w) {
            return w >= 0 && w < wines;
        }

        boolean knowsBoth(int m, int w) {
            return knowsMember(m) && knowsWine(w);
        }

        int factOfAll(int what) {
            switch (what) {
                case 0:
                    return members;
                case 1:
                    return wines;
                case 2:
                    return rack.bins;
                case 3:
                    return cellared.ofAll();
                case 4:
                    return drunk.ofAll();
                case 5:
                    return sumOf(corked);
                case 6:
                    return sumOf(reserve);
                case 7:
                    return sumOf(owed);
                case 8:
                    return rack.emptyBins();
                default:
                    return rack.roomInAll();
            }
        }

        int factOfMember(int m, int what) {
            switch (what) {
                case 0:
                    return points[m];
                case 1:
                    return owed[m];
                case 2:
                    return cellared.ofMember(m);
                default:
                    return drunk.ofMember(m);
            }
        }

        int factOfWine(int w, int what) {
            switch (what) {
                case 0:
                    return price[w];
                case 1:
                    return bought[w];
                case 2:
                    return reserve[w];
                case 3:
                    return stage[w];
                case 4:
                    return cellared.ofWine(w);
                case 5:
                    return drunk.ofWine(w);
                case 6:
                    return corked[w];
                case 7:
                    return allotted.ofWine(w);
                default:
                    return ordered.ofWine(w);
            }
        }

        int factOfBoth(int m, int w, int what) {
            switch (what) {
                case 0:
                    return ordered.of(m, w);
                case 1:
                    return allotted.of(m, w);
                default:
                    return cellared.of(m, w);
            }
        }

        int memberFault(int newPoints) {
            if (newPoints < 0 || newPoints > MOST_POINTS) {
                return OUT_OF_RANGE;
            }
            return members < MOST_MEMBERS ? FINE : NOT_NOW;
        }

        int enrol(int newPoints) {
            int m = members;
            points[m] = newPoints;
            members++;
            return m;
        }

        int wineFault(int newPrice, int bottles) {
            if (newPrice < 1 || newPrice > MOST_PRICE || bottles < 0 || bottles > MOST_BOTTLES) {
                return OUT_OF_RANGE;
            }
            return wines < MOST_WINES ? FINE : NOT_NOW;
        }

        int offer(int newPrice, int bottles) {
            int w = wines;
            price[w] = newPrice;
            bought[w] = bottles;
            reserve[w] = bottles;
            wines++;
            return w;
        }

        int orderFault(int m, int w, int n) {
            if (!knowsBoth(m, w)) {
                return NO_SUCH;
            }
            if (n < 0 || n > MOST_BOTTLES) {
                return OUT_OF_RANGE;
            }
            return stage[w] == OPEN ? FINE : NOT_NOW;
        }

        int changeOrder(int m, int w, int n) {
            int before = ordered.of(m, w);
            ordered.put(m, w, n);
            return before;
        }

        int allocationFault(int w) {
            if (!knowsWine(w)) {
                return NO_SUCH;
            }
            return stage[w] == OPEN ? FINE : NOT_NOW;
        }

        int shareOut(int w) {
            for (int bottle = 0; bottle < MOST_BOTTLES && reserve[w] > 0; bottle++) {
                int m = nextToGet(w);
                if (m == NONE) {
                    break;
                }
                allotted.add(m, w, 1);
                reserve[w]--;
            }
            for (int m = 0; m < members; m++) {
                int got = allotted.of(m, w);
                owed[m] += paidAhead(w, got);
                points[m] = Math.min(MOST_POINTS, points[m] + got);
                ordered.put(m, w, 0);
            }
            stage[w] = ALLOCATED;
            return allotted.ofWine(w);
        }

        private int nextToGet(int w) {
            int best = NONE;
            for (int m = 0; m < members; m++) {
                boolean wants = allotted.of(m, w) < ordered.of(m, w);
                if (wants && (best == NONE || comesBefore(m, best, w))) {
                    best = m;
                }
            }
            return best;
        }

        /** Compares (points + 1) / (bottles got + 1) by cross products, so that nothing is rounded. */
        private boolean comesBefore(int m, int other, int w) {
            return (points[m] + 1) * (allotted.of(other, w) + 1)
                    > (points[other] + 1) * (allotted.of(m, w) + 1);
        }

        private int paidAhead(int w, int n) {
            return (price[w] * n + 1) / 2;
        }

        int deliveryFault(int w) {
            if (!knowsWine(w)) {
                return NO_SUCH;
            }
            if (stage[w] != ALLOCATED || allotted.ofWine(w) > rack.roomForWine(w)) {
                return NOT_NOW;
            }
            return FINE;
        }

        int bringIn(int w) {
            int coming = allotted.ofWine(w);
            rack.lay(w, coming);
            for (int m = 0; m < members; m++) {
                int got = allotted.of(m, w);
                owed[m] += price[w] * got - paidAhead(w, got);
                cellared.put(m, w, got);
                allotted.put(m, w, 0);
            }
            stage[w] = DELIVERED;
            return coming;
        }

        int drinkFault(int m, int w, int n) {
            if (!knowsBoth(m, w)) {
                return NO_SUCH;
            }
            if (n < 1 || n > MOST_BOTTLES) {
                return OUT_OF_RANGE;
            }
            return cellared.of(m, w) >= n ? FINE : NOT_NOW;
        }

        int drinkUp(int m, int w, int n) {
            rack.take(w, n);
            cellared.add(m, w, -n);
            drunk.add(m, w, n);
            return cellared.of(m, w);
        }

        int giftFault(int m, int other, int w, int n) {
            if (!knowsBoth(m, w) || !knowsMember(other)) {
                return NO_SUCH;
            }
            if (m == other || n < 1 || n > MOST_BOTTLES) {
                return OUT_OF_RANGE;
            }
            return cellared.of(m, w) >= n ? FINE : NOT_NOW;
        }

        int handOver(int m, int other, int w, int n) {
            cellared.add(m, w, -n);
            cellared.add(other, w, n);
            return cellared.of(other, w);
        }

        int corkFault(int m, int w) {
            if (!knowsBoth(m, w)) {
                return NO_SUCH;
            }
            return cellared.of(m, w) > 0 ? FINE : NOT_NOW;
        }

        int replaceCorked(int m, int w) {
            rack.take(w, 1);
            corked[w]++;
            if (reserve[w] > 0) {
                reserve[w]--;
                rack.lay(w, 1);
                return 1;
            }
            cellared.add(m, w, -1);
            owed[m] -= price[w];
            return 0;
        }

        int settle(int m) {
            int before = owed[m];
            owed[m] = 0;
            return before;
        }

        void copyFrom(Club other) {
            members = other.members;
            wines = other.wines;
            copyRow(other.points, points);
            copyRow(other.owed, owed);
            copyRow(other.price, price);
            copyRow(other.bought, bought);
            copyRow(other.reserve, reserve);
            copyRow(other.stage, stage);
            copyRow(other.corked, corked);
            ordered.copyFrom(other.ordered);
            allotted.copyFrom(other.allotted);
            cellared.copyFrom(other.cellared);
            drunk.copyFrom(other.drunk);
            rack.copyFrom(other.rack);
        }
    }

    /** The text buffer, and the club that was read from it last. */
    private static final class Text {
        private final char[] signs = new char[MOST_TEXT];
        private int length;
        private int at;
        private final Club told = new Club();
        private final Club nothing = new Club();

        int addingFault(int c) {
            if (c < 0 || c > 255) {
                return OUT_OF_RANGE;
            }
            return length < MOST_TEXT ? FINE : NOT_NOW;
        }

        int add(char sign) {
            signs[length] = sign;
            length++;
            return length;
        }

        int wipe() {
            int before = length;
            length = 0;
            return before;
        }

        /** Reads the text into told. Answers the error position, NONE if there is no error. */
        int read() {
            told.copyFrom(nothing);
            at = 0;
            if (length == 0 || signs[0] != 'C') {
                return at;
            }
            at = 1;
            for (int part = 0; part < MOST_TEXT && at < length; part++) {
                if (!readPart()) {
                    return at;
                }
            }
            return NONE;
        }

        /** Reads a part that begins at the index at. If it is none, at stays at the error. */
        private boolean readPart() {
            switch (signs[at]) {
                case 'm':
                    return readMember();
                case 'w':
                    return readWine();
                case 'b':
                    return readBin();
                case 'o':
                    return readOrder();
                default:
                    return false;
            }
        }

        private boolean readMember() {
            if (told.members == MOST_MEMBERS) {
                return false;
            }
            at++;
            int points = readNumber(3, 0, MOST_POINTS);
            if (points == NONE) {
                return false;
            }
            told.enrol(points);
            return true;
        }

        private boolean readWine() {
            if (told.wines == MOST_WINES) {
                return false;
            }
            at++;
            int price = readNumber(2, 1, MOST_PRICE);
            if (price == NONE) {
                return false;
            }
            int bottles = readNumber(2, 0, MOST_BOTTLES);
            if (bottles == NONE) {
                return false;
            }
            told.offer(price, bottles);
            return true;
        }

        private boolean readBin() {
            if (told.rack.bins == MOST_BINS) {
                return false;
            }
            at++;
            int size = readNumber(2, 1, MOST_SIZE);
            if (size == NONE) {
                return false;
            }
            told.rack.install(size);
            return true;
        }

        private boolean readOrder() {
            if (told.members == 0 || told.wines == 0) {
                return false;
            }
            at++;
            int m = readNumber(1, 0, told.members - 1);
            if (m == NONE) {
                return false;
            }
            int w = readNumber(1, 0, told.wines - 1);
            if (w == NONE) {
                return false;
            }
            int n = readNumber(2, 0, MOST_BOTTLES);
            if (n == NONE) {
                return false;
            }
            told.changeOrder(m, w, n);
            return true;
        }

        /** Reads a number of so many digits. If it is none from least to most, answers NONE. */
        private int readNumber(int digits, int least, int most) {
            int span = 1;
            for (int i = 0; i < digits; i++) {
                span = span * 10;
            }
            int value = 0;
            for (int i = 0; i < digits; i++) {
                if (at >= length || signs[at] < '0' || signs[at] > '9') {
                    return NONE;
                }
                // The digits so far may still become any number from value to value + span - 1.
                span = span / 10;
                value += (signs[at] - '0') * span;
                if (value > most || value + span - 1 < least) {
                    return NONE;
                }
                at++;
            }
            return value;
        }
    }

    /** The remembered states, the oldest one first. */
    private static final class History {
        private final Club[] states = new Club[MOST_REMEMBERED];
        private int count;

        History() {
            for (int i = 0; i < MOST_REMEMBERED; i++) {
                states[i] = new Club();
            }
        }

        void remember(Club club) {
            if (count == MOST_REMEMBERED) {
                forgetOldest();
            }
            states[count].copyFrom(club);
            count++;
        }

        private void forgetOldest() {
            Club oldest = states[0];
            for (int i = 1; i < MOST_REMEMBERED; i++) {
                states[i - 1] = states[i];
            }
            // Its rows are used again, so that no action makes a new object.
            states[MOST_REMEMBERED - 1] = oldest;
            count--;
        }

        int takeBack(Club club) {
            if (count > 0) {
                count--;
                club.copyFrom(states[count]);
            }
            return count;
        }

        void forgetAll() {
            count = 0;
        }
    }

    /** A copy of the club on which something is tried; what would throw in the club fails here. */
    private static final class Rehearsal {
        private final Club copy = new Club();

        void begin(Club club) {
            copy.copyFrom(club);
        }

        /** Runs a command of five digits. */
        boolean obeys(int group) {
            int first = group / 1000 % 10;
            int second = group / 100 % 10;
            int rest = group % 100;
            switch (group / 10000) {
                case 1:
                    return orders(first, second, rest);
                case 2:
                    return second == 0 && rest == 0 && allocates(first);
                case 3:
                    return second == 0 && rest == 0 && delivers(first);
                case 4:
                    return drinks(first, second, rest);
                case 5:
                    return gives(first, second, rest / 10, rest % 10);
                case 6:
                    return rest == 0 && corks(first, second);
                case 7:
                    return moves(first, second, rest);
                case 8:
                    return copy.knowsBoth(first, second) && copy.cellared.of(first, second) >= rest;
                case 9:
                    return first == 0 && second == 0 && rest < 10 && copy.rack.emptyBins() >= rest;
                default:
                    return false;
            }
        }

        void spendEvening(int r) {
            if (copy.members == 0 || copy.wines == 0) {
                return;
            }
            int m = r / 8 % copy.members;
            int w = r / 64 % copy.wines;
            int kind = r % 8;
            if (kind < 5) {
                drinks(m, w, 1 + r / 1024 % 3);
            } else if (kind == 5) {
                corks(m, w);
            } else {
                gives(m, r / 1024 % copy.members, w, 1);
            }
        }

        boolean orders(int m, int w, int n) {
            boolean fine = copy.orderFault(m, w, n) == FINE;
            if (fine) {
                copy.changeOrder(m, w, n);
            }
            return fine;
        }

        boolean allocates(int w) {
            boolean fine = copy.allocationFault(w) == FINE;
            if (fine) {
                copy.shareOut(w);
            }
            return fine;
        }

        boolean delivers(int w) {
            boolean fine = copy.deliveryFault(w) == FINE;
            if (fine) {
                copy.bringIn(w);
            }
            return fine;
        }

        boolean drinks(int m, int w, int n) {
            boolean fine = copy.drinkFault(m, w, n) == FINE;
            if (fine) {
                copy.drinkUp(m, w, n);
            }
            return fine;
        }

        boolean gives(int m, int other, int w, int n) {
            boolean fine = copy.giftFault(m, other, w, n) == FINE;
            if (fine) {
                copy.handOver(m, other, w, n);
            }
            return fine;
        }

        boolean corks(int m, int w) {
            boolean fine = copy.corkFault(m, w) == FINE;
            if (fine) {
                copy.replaceCorked(m, w);
            }
            return fine;
        }

        boolean moves(int b, int to, int n) {
            boolean fine = copy.rack.carryFault(b, to, n) == FINE;
            if (fine) {
                copy.rack.carry(b, to, n);
            }
            return fine;
        }
    }

    /** Finds in how few bins the cellar could lie. A set of bins is a number with a bit for each bin. */
    private static final class Packing {
        private final int[] room = new int[1 << MOST_BINS];
        private final boolean[] filled = new boolean[1 << MOST_BINS];

        int fewest(Club club) {
            int bins = club.rack.bins;
            int sets = 1 << bins;
            measure(club.rack, sets);
            for (int set = 0; set < sets; set++) {
                filled[set] = set == 0;
            }
            for (int w = 0; w < club.wines; w++) {
                int bottles = club.cellared.ofWine(w);
                if (bottles > 0) {
                    packWine(bottles, sets);
                }
            }
            int best = bins;
            for (int set = 0; set < sets; set++) {
                if (filled[set]) {
                    best = Math.min(best, Integer.bitCount(set));
                }
            }
            return best;
        }

        private void measure(Rack rack, int sets) {
            for (int set = 0; set < sets; set++) {
                room[set] = 0;
                for (int b = 0; b < rack.bins; b++) {
                    if ((set >> b & 1) == 1) {
                        room[set] += rack.size[b];
                    }
                }
            }
        }

        /** Makes filled, which told the sets for the wines so far, tell those with one wine more. */
        private void packWine(int bottles, int sets) {
            // Downwards, since what is asked of a set depends on lower ones as they were before.
            for (int set = sets - 1; set >= 0; set--) {
                filled[set] = canPack(bottles, set);
            }
        }

        private boolean canPack(int bottles, int set) {
            // Each step makes part lower, so it goes once through all sets within the set.
            int part = set;
            for (int step = 0; step < filled.length && part > 0; step++) {
                if (room[part] >= bottles && filled[set ^ part]) {
                    return true;
                }
                part = (part - 1) & set;
            }
            return false;
        }
    }
}
