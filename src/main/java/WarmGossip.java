/** A parish in which gossip is handed on from house to house while it is warm. */
public final class WarmGossip {
    public static final int BAD = -1, FULL = -2, NONE = -3;

    private static final int NO_ROW = -9;
    private static final int NOTHING_THERE = -11, OUTSIDE = -12, OTHER_SORT = -13;
    private static final int SIZE_BELOW_0 = -14, PARTED_BY_0 = -15;
    private static final int FAULT_BASE = -100;

    private static final int HOUSES = 8, ALL_HOUSES = 255;
    private static final int MOST_TALES = 8;
    private static final int MOST_HEAT = 99, MOST_TASTE = 99, HEAT_UNTOLD = 50;
    private static final int LONGEST_TRY = 60;

    private static final int AIR = 0, SPICE = 1, CRUST = 2, MEETING = 3, LAWS = 4;
    private static final int[] LAW_FIRST = {3, 2, 0, 20};
    private static final int[] LAW_TOP = {9, 9, 99, 99};
    private static final int HUNDRED = 100;
    /** Far more than two longs need till their common divisor is found. */
    private static final int MOST_DIVISIONS = 1000;

    private static final int TALE = 0, NEWS = 1, RUMOUR = 2, SCANDAL = 3, WHISPER = 4, TRUTH = 5, KINDS = 6;
    /** By KIND: the one that it stands under; the first stands under none. */
    private static final int[] KIND_ABOVE = {-1, TALE, TALE, NEWS, RUMOUR, TALE};

    private static final int TAPE_BYTES = 200;
    private static final int ROWS = 10, ROW_PARTS = 3;
    private static final int SHEETS = 4, SHELVES = 4;
    private static final int SHEET_ITEMS = 40;
    private static final int SORTS = 4, BYTES = 0, SHORTS = 1, MISSING = -1;
    private static final int ROW_AS = 10;
    private static final int STEAMS = 0, SMELLS = 1, PARTS = 2, ACTS = 4;
    /** By KIND and ACT: the body that it runs, its own or one from above. */
    private static final int[] BODY_OF = {
        10, 11, 12, 13,
        10, 20, 12, 13,
        30, 11, 12, 31,
        51, 20, 50, 13,
        40, 41, 12, 31,
        10, 11, 61, 60,
    };
    private static final int ANY_HOUSE = -1;

    private final Parish now, kept, tried;
    private boolean anyKept;
    private final Tape tape;
    private final int[][] rows;
    private int rowCount;
    private final Sheet[] sheets;
    private final Shelf[] shelves;
    private final Doing doing;

    public WarmGossip() {
        now = new Parish();
        kept = new Parish();
        tried = new Parish();
        tape = new Tape();
        rows = new int[ROWS][ROW_PARTS];
        sheets = new Sheet[SHEETS];
        for (int i = 0; i < SHEETS; i++) {
            sheets[i] = new Sheet();
        }
        shelves = new Shelf[SHELVES];
        for (int i = 0; i < SHELVES; i++) {
            shelves[i] = new Shelf();
        }
        doing = new Doing();
    }

    // ---- the tape and the text

    public int feed(long eight, int n) {
        if (!isWithin(n, 1, 8)) {
            return BAD;
        }
        if (tape.count + n > TAPE_BYTES) {
            return FULL;
        }
        for (int i = 0; i < n; i++) {
            tape.append((byte) (eight >>> (8 * i)));
        }
        return tape.count;
    }

    public int parish() {
        tried.makeFirst();
        tried.z = now.z;
        int fault = tape.readInto(tried);
        tape.count = 0;
        if (fault >= 0) {
            return FAULT_BASE - fault;
        }
        now.copyFrom(tried);
        rowCount = 0;
        return now.tales;
    }

    // ---- how all is now

    public int set(int law, int v) {
        if (!isWithin(law, 0, LAWS - 1) || !isWithin(v, 0, LAW_TOP[law])) {
            return BAD;
        }
        int was = now.laws[law];
        now.laws[law] = v;
        return was;
    }

    public int lawOf(int law) {
        return isWithin(law, 0, LAWS - 1) ? now.laws[law] : BAD;
    }

    public int tale(int kind, int heat, int house) {
        if (!isKind(kind) || !isHeat(heat) || !isHouse(house)) {
            return BAD;
        }
        if (now.tales >= MOST_TALES) {
            return FULL;
        }
        return now.add(kind, heat, house);
    }

    public int of(int tale, int what) {
        if (!isTale(tale)) {
            return BAD;
        }
        switch (what) {
            case 0: return now.kind[tale];
            case 1: return now.heat[tale];
            case 2: return now.at[tale];
            case 3: return now.heard[tale];
            default: return BAD;
        }
    }

    public int does(int tale, int what) {
        if (!isTale(tale) || !isWithin(what, 0, 1)) {
            return BAD;
        }
        return 1000 + (what == 0 ? now.coolsOf(tale) : now.doorsOf(tale));
    }

    public int mind(int tale, int kind) {
        if (!isTale(tale) || !isKind(kind)) {
            return BAD;
        }
        int was = now.kind[tale];
        now.kind[tale] = kind;
        return was;
    }

    public int warm(int tale, int v) {
        if (!isTale(tale) || !isHeat(v)) {
            return BAD;
        }
        int was = now.heat[tale];
        now.heat[tale] = v;
        return was;
    }

    public int carry(int tale, int house) {
        if (!isTale(tale) || !isHouse(house)) {
            return BAD;
        }
        int was = now.at[tale];
        now.bring(tale, house);
        return was;
    }

    public int house(int house, int what, int v) {
        if (!isHouse(house)) {
            return BAD;
        }
        int was = houseOf(house, what);
        if (what == 0 && isHouse(v)) {
            now.friend[house] = v;
            return was;
        }
        if (what == 1 && isWithin(v, 0, MOST_TASTE)) {
            now.taste[house] = v;
            return was;
        }
        if (what == 2 && isWithin(v, 0, 1)) {
            now.boxes = v == 1 ? now.boxes | 1 << house : now.boxes & ~(1 << house);
            return was;
        }
        return BAD;
    }

    public int houseOf(int house, int what) {
        if (!isHouse(house)) {
            return BAD;
        }
        switch (what) {
            case 0: return now.friend[house];
            case 1: return now.taste[house];
            case 2: return now.hasBox(house) ? 1 : 0;
            case 3: return now.talesAt(house);
            case 4: return now.loopFrom(house);
            case 5: return now.talesHeardBy(house);
            default: return BAD;
        }
    }

    public int minutes(int n) {
        if (!isWithin(n, 1, 60)) {
            return BAD;
        }
        for (int i = 0; i < n; i++) {
            now.passMinute();
        }
        return now.heatTogether();
    }

    public int seed(int v) {
        int was = now.z;
        now.z = v;
        return was;
    }

    public int minute() {
        now.passMinuteByDraws();
        return now.heatTogether();
    }

    public int state(int what) {
        switch (what) {
            case 0: return now.minutesGone;
            case 1: return now.heatTogether();
            case 2: return now.hearings();
            case 3: return now.housesWithTales();
            case 4: return now.boxes;
            case 5: return now.coldTales();
            default: return BAD;
        }
    }

    // ---- what is tried

    public int spread(int n) {
        if (!isWithin(n, 1, 30)) {
            return BAD;
        }
        startTrial();
        tried.passMinute();
        int byItself = tried.hearings();
        int z = now.z;
        int more = 0;
        for (int i = 0; i < n; i++) {
            startTrial();
            tried.z = z;
            tried.passMinuteByDraws();
            z = tried.z;
            if (tried.hearings() > byItself) {
                more++;
            }
        }
        return more;
    }

    public int where(int tale, int n) {
        if (!isTale(tale) || !isWithin(n, 0, LONGEST_TRY)) {
            return BAD;
        }
        startTrial();
        tried.passMinutesOf(tale, n);
        return tried.at[tale];
    }

    public int comes(int tale, int house) {
        if (!isTale(tale) || !isHouse(house)) {
            return BAD;
        }
        startTrial();
        return triedUntilHeard(tale, 1 << house, LONGEST_TRY);
    }

    public int cold(int tale) {
        if (!isTale(tale)) {
            return BAD;
        }
        startTrial();
        for (int gone = 0; gone <= LONGEST_TRY; gone++) {
            if (tried.heat[tale] == 0) {
                return gone;
            }
            tried.passMinuteOf(tale);
        }
        return NONE;
    }

    public int whole(int tale) {
        if (!isTale(tale)) {
            return BAD;
        }
        startTrial();
        return triedUntilHeard(tale, ALL_HOUSES, LONGEST_TRY);
    }

    public int home(int tale) {
        if (!isTale(tale)) {
            return BAD;
        }
        startTrial();
        for (int gone = 1; gone <= LONGEST_TRY; gone++) {
            tried.passMinuteOf(tale);
            if (tried.at[tale] == now.at[tale] && tried.heat[tale] > 0) {
                return gone;
            }
        }
        return NONE;
    }

    public int reach(int tale, int n) {
        if (!isTale(tale) || !isWithin(n, 0, LONGEST_TRY)) {
            return BAD;
        }
        startTrial();
        return triedReach(tale, n);
    }

    public int friendFor(int house, int tale, int n) {
        if (!isHouse(house) || !isTale(tale) || !isWithin(n, 1, 30)) {
            return BAD;
        }
        int best = 0;
        int farthest = -1;
        for (int friend = 0; friend < HOUSES; friend++) {
            startTrial();
            tried.friend[house] = friend;
            int reached = triedReach(tale, n);
            if (reached > farthest) {
                farthest = reached;
                best = friend;
            }
        }
        return best;
    }

    public int boxFor(int tale, int n) {
        if (!isTale(tale) || !isWithin(n, 1, 30)) {
            return BAD;
        }
        int best = NONE;
        int warmest = triedHeat(tale, n, now.boxes);
        for (int house = 0; house < HOUSES; house++) {
            if (now.hasBox(house)) {
                continue;
            }
            int heat = triedHeat(tale, n, now.boxes | 1 << house);
            if (heat > warmest) {
                warmest = heat;
                best = house;
            }
        }
        return best;
    }

    public int kindFor(int tale, int n) {
        if (!isTale(tale) || !isWithin(n, 1, 30)) {
            return BAD;
        }
        int best = 0;
        int farthest = -1;
        for (int kind = 0; kind < KINDS; kind++) {
            startTrial();
            tried.kind[tale] = kind;
            int reached = triedReach(tale, n);
            if (reached > farthest) {
                farthest = reached;
                best = kind;
            }
        }
        return best;
    }

    public int heatFor(int tale, int house, int n) {
        if (!isTale(tale) || !isHouse(house) || !isWithin(n, 0, 30)) {
            return BAD;
        }
        for (int heat = 0; heat <= MOST_HEAT; heat++) {
            startTrial();
            tried.heat[tale] = heat;
            if (triedUntilHeard(tale, 1 << house, n) != NONE) {
                return heat;
            }
        }
        return NONE;
    }

    public int keptFor(int tale, int n, int v) {
        if (!isTale(tale) || !isWithin(n, 1, 20) || !isHeat(v)) {
            return BAD;
        }
        for (int size = 0; size <= HOUSES; size++) {
            for (int boxes = 0; boxes <= ALL_HOUSES; boxes++) {
                if (Integer.bitCount(boxes) == size && triedHeat(tale, n, boxes) >= v) {
                    return boxes;
                }
            }
        }
        return NONE;
    }

    public int fits(int sheet, int tale, int what) {
        if (!isSheet(sheet) || !isTale(tale) || !isWithin(what, 0, 1)) {
            return BAD;
        }
        if (sheets[sheet].isMissing()) {
            return NOTHING_THERE;
        }
        int least = NONE;
        int many = 0;
        for (int heat = MOST_HEAT; heat >= 0; heat--) {
            if (goesAsTold(tale, heat, sheets[sheet])) {
                least = heat;
                many++;
            }
        }
        return what == 0 ? many : least;
    }

    private void startTrial() {
        tried.copyFrom(now);
    }

    /** Behind the fewest MINUTES that all of these HOUSES have HEARD it, or NONE. */
    private int triedUntilHeard(int tale, int houses, int most) {
        for (int gone = 0; gone <= most; gone++) {
            if ((tried.heard[tale] & houses) == houses) {
                return gone;
            }
            tried.passMinuteOf(tale);
        }
        return NONE;
    }

    private int triedReach(int tale, int n) {
        tried.passMinutesOf(tale, n);
        return Integer.bitCount(tried.heard[tale]);
    }

    private int triedHeat(int tale, int n, int boxes) {
        startTrial();
        tried.boxes = boxes;
        tried.passMinutesOf(tale, n);
        return tried.heat[tale];
    }

    private boolean goesAsTold(int tale, int heat, Sheet told) {
        startTrial();
        tried.heat[tale] = heat;
        for (int i = 0; i < told.count; i++) {
            tried.passMinuteOf(tale);
            int house = told.items[i];
            if (house != ANY_HOUSE && house != tried.at[tale]) {
                return false;
            }
        }
        return true;
    }

    // ---- odds

    public long odds(int n, int k, int part) {
        if (!isWithin(n, 0, 8) || !isWithin(k, 0, n) || !isWithin(part, 0, 1)) {
            return BAD;
        }
        int meeting = now.laws[MEETING];
        long above = waysToChoose(n, k) * power(meeting, k) * power(HUNDRED - meeting, n - k);
        return partOf(above, power(HUNDRED, n), part);
    }

    public long hope(int n, int part) {
        if (!isWithin(n, 0, 99) || !isWithin(part, 0, 1)) {
            return BAD;
        }
        return partOf((long) n * now.laws[MEETING], HUNDRED, part);
    }

    private static long waysToChoose(int n, int k) {
        long ways = 1;
        for (int i = 1; i <= k; i++) {
            ways = ways * (n - k + i) / i;
        }
        return ways;
    }

    private static long power(long base, int exponent) {
        long product = 1;
        for (int i = 0; i < exponent; i++) {
            product *= base;
        }
        return product;
    }

    private static long partOf(long above, long below, int part) {
        long divisor = commonDivisor(above, below);
        return divisor == 0 ? 0 : (part == 0 ? above : below) / divisor;
    }

    private static long commonDivisor(long a, long b) {
        long divisor = a;
        long rest = b;
        for (int steps = 0; steps < MOST_DIVISIONS && rest != 0; steps++) {
            long next = divisor % rest;
            divisor = rest;
            rest = next;
        }
        return divisor;
    }

    // ---- rows

    public int prove(int tale, int n) {
        if (!isTale(tale) || !isWithin(n, 1, ROWS)) {
            return BAD;
        }
        startTrial();
        for (int i = 0; i < n; i++) {
            tried.passMinuteOf(tale);
            for (int part = 0; part < ROW_PARTS; part++) {
                rows[i][part] = triedRowPart(tale, part);
            }
        }
        rowCount = n;
        return n;
    }

    public int row(int i, int what) {
        return isInRows(i, what) ? rows[i][what] : NO_ROW;
    }

    public int alterRow(int i, int what, int v) {
        if (!isInRows(i, what)) {
            return NO_ROW;
        }
        int was = rows[i][what];
        rows[i][what] = v;
        return was;
    }

    public int judge(int tale) {
        if (!isTale(tale)) {
            return BAD;
        }
        startTrial();
        for (int i = 0; i < rowCount; i++) {
            tried.passMinuteOf(tale);
            for (int part = 0; part < ROW_PARTS; part++) {
                if (rows[i][part] != triedRowPart(tale, part)) {
                    return i + 1;
                }
            }
        }
        return 0;
    }

    private int triedRowPart(int tale, int part) {
        switch (part) {
            case 0: return tried.at[tale];
            case 1: return tried.heat[tale];
            default: return tried.heard[tale];
        }
    }

    private boolean isInRows(int i, int what) {
        return isWithin(i, 0, rowCount - 1) && isWithin(what, 0, ROW_PARTS - 1);
    }

    // ---- sheets

    public int minds(int sheet, int i, int tale, int n) {
        if (!isSheet(sheet) || !isTale(tale) || !isWithin(n, 0, MOST_TALES) || tale + n > now.tales) {
            return BAD;
        }
        Sheet from = sheets[sheet];
        if (from.isMissing()) {
            return NOTHING_THERE;
        }
        if (from.sort != BYTES) {
            return OTHER_SORT;
        }
        if (!isWithin(i, 0, from.count) || i + n > from.count) {
            return OUTSIDE;
        }
        for (int step = 0; step < n; step++) {
            now.heat[tale + step] = heldHeat(from.items[i + step]);
        }
        return n;
    }

    public int sheet(int sheet, int sort, int n) {
        if (!isSheet(sheet) || !isWithin(sort, MISSING, SORTS - 1)) {
            return BAD;
        }
        if (sort == MISSING) {
            sheets[sheet].becomeMissing();
            return 1;
        }
        if (n > SHEET_ITEMS) {
            return BAD;
        }
        if (n < 0) {
            return SIZE_BELOW_0;
        }
        sheets[sheet].becomeRow(sort, n);
        return 1;
    }

    public int put(int sheet, int i, int v) {
        if (!isSheet(sheet)) {
            return BAD;
        }
        Sheet into = sheets[sheet];
        if (into.isMissing()) {
            return NOTHING_THERE;
        }
        if (!isWithin(i, 0, into.count - 1)) {
            return OUTSIDE;
        }
        into.items[i] = into.narrowed(v);
        return 1;
    }

    public int item(int sheet, int sort, int i) {
        if (!isSheet(sheet) || !isWithin(sort, 0, SORTS - 1)) {
            return BAD;
        }
        Sheet from = sheets[sheet];
        if (from.isMissing()) {
            return NOTHING_THERE;
        }
        if (from.sort != sort) {
            return OTHER_SORT;
        }
        return isWithin(i, 0, from.count - 1) ? from.items[i] : OUTSIDE;
    }

    // ---- shelves and acts

    public int shelf(int shelf, int what, int n) {
        if (!isShelf(shelf)) {
            return BAD;
        }
        if (what == 0 && isTale(n)) {
            shelves[shelf].holdTale(n);
            return 1;
        }
        if (what == 1 && isSheet(n)) {
            shelves[shelf].holdRow(sheets[n]);
            return 1;
        }
        if (what == 2) {
            shelves[shelf].holdNothing();
            return 1;
        }
        return BAD;
    }

    public int taken(int shelf, int as) {
        boolean asRow = isWithin(as, ROW_AS, ROW_AS + SORTS - 1);
        if (!isShelf(shelf) || !asRow && !isKind(as)) {
            return BAD;
        }
        Shelf from = shelves[shelf];
        if (from.holds == Shelf.HOLDS_ROW) {
            return asRow && from.sort == as - ROW_AS ? from.number : OTHER_SORT;
        }
        if (!holdsTale(from)) {
            return NOTHING_THERE;
        }
        return !asRow && isOrIsUnder(now.kind[from.number], as) ? from.number : OTHER_SORT;
    }

    public int act(int shelf, int act, int x) {
        doing.forget();
        if (!isShelf(shelf) || !isWithin(act, 0, ACTS - 1) || !holdsTale(shelves[shelf])) {
            return 0;
        }
        int number = shelves[shelf].number;
        return doing.perform(now.kind[number], number, now.at[number], act, x);
    }

    public int trace(int i) {
        return isWithin(i, 0, doing.count - 1) ? doing.bodies[i] : NONE;
    }

    /** A SHELF keeps the number of a tale that is gone: then it holds nothing. */
    private boolean holdsTale(Shelf shelf) {
        return shelf.holds == Shelf.HOLDS_TALE && isTale(shelf.number);
    }

    private static boolean isOrIsUnder(int kind, int above) {
        int k = kind;
        for (int steps = 0; steps < KINDS && isKind(k); steps++) {
            if (k == above) {
                return true;
            }
            k = KIND_ABOVE[k];
        }
        return false;
    }

    // ---- how many, and what is kept

    public int many(int what) {
        switch (what) {
            case 0: return now.tales;
            case 1: return now.tales - Integer.bitCount(now.coldTales());
            case 2: return Integer.bitCount(now.housesWithTales());
            case 3: return Integer.bitCount(now.boxes);
            case 4: return rowCount;
            case 5: return tape.count;
            case 6: return doing.count;
            default: return BAD;
        }
    }

    public int keep() {
        kept.copyFrom(now);
        anyKept = true;
        return 1;
    }

    public int again() {
        if (!anyKept) {
            return NONE;
        }
        now.copyFrom(kept);
        return now.tales;
    }

    // ---- what is as told

    private static boolean isWithin(int v, int least, int most) {
        return v >= least && v <= most;
    }

    private static boolean isHouse(int v) {
        return isWithin(v, 0, HOUSES - 1);
    }

    private static boolean isKind(int v) {
        return isWithin(v, 0, KINDS - 1);
    }

    private static boolean isHeat(int v) {
        return isWithin(v, 0, MOST_HEAT);
    }

    private static boolean isSheet(int v) {
        return isWithin(v, 0, SHEETS - 1);
    }

    private static boolean isShelf(int v) {
        return isWithin(v, 0, SHELVES - 1);
    }

    private boolean isTale(int v) {
        return isWithin(v, 0, now.tales - 1);
    }

    private static int heldHeat(int v) {
        return Math.max(0, Math.min(MOST_HEAT, v));
    }

    /** All that keep() keeps: the laws, the houses, the tales, the minute and z. */
    private static final class Parish {
        final int[] laws = new int[LAWS];
        final int[] friend = new int[HOUSES];
        final int[] taste = new int[HOUSES];
        final int[] kind = new int[MOST_TALES];
        final int[] heat = new int[MOST_TALES];
        final int[] at = new int[MOST_TALES];
        final int[] heard = new int[MOST_TALES];
        int boxes;
        int tales;
        int minutesGone;
        int z = 1;

        Parish() {
            makeFirst();
        }

        /** All but z, which a new parish goes on with. */
        void makeFirst() {
            for (int law = 0; law < LAWS; law++) {
                laws[law] = LAW_FIRST[law];
            }
            for (int house = 0; house < HOUSES; house++) {
                friend[house] = (house + 1) % HOUSES;
                taste[house] = 1;
            }
            boxes = 0;
            tales = 0;
            minutesGone = 0;
        }

        void copyFrom(Parish other) {
            System.arraycopy(other.laws, 0, laws, 0, LAWS);
            System.arraycopy(other.friend, 0, friend, 0, HOUSES);
            System.arraycopy(other.taste, 0, taste, 0, HOUSES);
            System.arraycopy(other.kind, 0, kind, 0, MOST_TALES);
            System.arraycopy(other.heat, 0, heat, 0, MOST_TALES);
            System.arraycopy(other.at, 0, at, 0, MOST_TALES);
            System.arraycopy(other.heard, 0, heard, 0, MOST_TALES);
            boxes = other.boxes;
            tales = other.tales;
            minutesGone = other.minutesGone;
            z = other.z;
        }

        /** For a parish that is not full. */
        int add(int ofKind, int withHeat, int house) {
            int number = tales;
            kind[number] = ofKind;
            heat[number] = withHeat;
            at[number] = house;
            heard[number] = 1 << house;
            tales++;
            return number;
        }

        void bring(int tale, int house) {
            at[tale] = house;
            heard[tale] |= 1 << house;
        }

        int coolsOf(int tale) {
            int air = laws[AIR];
            switch (kind[tale]) {
                case NEWS: return air - 1;
                case SCANDAL: return air - 1 - laws[SPICE];
                case RUMOUR: return air * 2;
                case WHISPER: return air * 2 + Integer.bitCount(heard[tale]);
                case TRUTH: return heat[tale] > laws[CRUST] ? -1 : air;
                default: return air;
            }
        }

        int doorsOf(int tale) {
            switch (kind[tale]) {
                case SCANDAL: return 2;
                case RUMOUR: return 2;
                case WHISPER: return 2 - minutesGone % 2;
                case TRUTH: return minutesGone % 3 == 0 ? 1 : 0;
                default: return 1;
            }
        }

        void passMinute() {
            for (int tale = 0; tale < tales; tale++) {
                handOnAndCool(tale);
            }
            minutesGone++;
        }

        /** TALES do nothing to one another, so one may be tried without the rest. */
        void passMinuteOf(int tale) {
            handOnAndCool(tale);
            minutesGone++;
        }

        void passMinutesOf(int tale, int n) {
            for (int i = 0; i < n; i++) {
                passMinuteOf(tale);
            }
        }

        void passMinuteByDraws() {
            if (tales > 0) {
                int tale = draw() % tales;
                if (draw() % HUNDRED < laws[MEETING]) {
                    bring(tale, draw() % HOUSES);
                }
            }
            passMinute();
        }

        int draw() {
            z = z * 1103515245 + 12345;
            return z >>> 16;
        }

        void handOnAndCool(int tale) {
            int doors = doorsOf(tale);
            for (int i = 0; i < doors; i++) {
                int next = friend[at[tale]];
                if (heat[tale] < taste[next]) {
                    break;
                }
                bring(tale, next);
            }
            int cooling = coolsOf(tale);
            heat[tale] = heldHeat(heat[tale] - (hasBox(at[tale]) ? cooling / 2 : cooling));
        }

        boolean hasBox(int house) {
            return (boxes >> house & 1) == 1;
        }

        int heatTogether() {
            int sum = 0;
            for (int tale = 0; tale < tales; tale++) {
                sum += heat[tale];
            }
            return sum;
        }

        int hearings() {
            int sum = 0;
            for (int tale = 0; tale < tales; tale++) {
                sum += Integer.bitCount(heard[tale]);
            }
            return sum;
        }

        int housesWithTales() {
            int houses = 0;
            for (int tale = 0; tale < tales; tale++) {
                houses |= 1 << at[tale];
            }
            return houses;
        }

        int coldTales() {
            int found = 0;
            for (int tale = 0; tale < tales; tale++) {
                if (heat[tale] == 0) {
                    found |= 1 << tale;
                }
            }
            return found;
        }

        int talesAt(int house) {
            int found = 0;
            for (int tale = 0; tale < tales; tale++) {
                if (at[tale] == house) {
                    found |= 1 << tale;
                }
            }
            return found;
        }

        int talesHeardBy(int house) {
            int found = 0;
            for (int tale = 0; tale < tales; tale++) {
                if ((heard[tale] >> house & 1) == 1) {
                    found |= 1 << tale;
                }
            }
            return found;
        }

        int loopFrom(int house) {
            int houses = 0;
            int h = house;
            for (int i = 0; i < HOUSES; i++) {
                houses |= 1 << h;
                h = friend[h];
            }
            return houses;
        }
    }

    /** The latest act: the thing that it is of, and THE TRACE. */
    private static final class Doing {
        static final int BODIES_KEPT = 30;
        static final int DEEPEST = 16;

        final int[] bodies = new int[BODIES_KEPT];
        int count;
        int kind;
        int number;
        int house;
        boolean parted0;

        void forget() {
            count = 0;
        }

        int perform(int ofKind, int ofNumber, int atHouse, int act, int x) {
            kind = ofKind;
            number = ofNumber;
            house = atHouse;
            parted0 = false;
            int answer = ask(act, x, 0);
            return parted0 ? PARTED_BY_0 : answer;
        }

        private int ask(int act, int x, int depth) {
            return run(BODY_OF[kind * ACTS + act], x, depth);
        }

        /** Nothing runs behind a parting by 0, so what is still called then leaves no trace. */
        private int run(int body, int x, int depth) {
            if (parted0 || depth > DEEPEST) {
                return 0;
            }
            note(body);
            int d = depth + 1;
            switch (body) {
                case 10: return x * 2 - number;
                case 11: return ask(STEAMS, x, d) + house * 4;
                case 12: return quotient(x, house - number);
                case 13: return ask(SMELLS, x, d) ^ 160;
                case 20: return run(11, x, d) - 1;
                case 30: return 0 - run(10, x, d);
                case 31: return run(13, x, d) + ask(PARTS, number, d);
                case 40: return run(30, x, d) * 3;
                case 41: return run(11, x, d) ^ ask(STEAMS, house, d);
                case 50: return run(12, x + 8, d) - number;
                case 51: return run(10, x, d) + house;
                case 60: return run(13, x, d) - 6;
                case 61: return run(12, x, d) * ask(STEAMS, number, d);
                default: return 0;
            }
        }

        private void note(int body) {
            if (count < BODIES_KEPT) {
                bodies[count] = body;
                count++;
            }
        }

        private int quotient(int x, int below) {
            if (below == 0) {
                parted0 = true;
                return 0;
            }
            return x / below;
        }
    }

    private static final class Sheet {
        int sort = MISSING;
        int count;
        /** Items are put as ints, so those of longs stand in ints too. */
        final int[] items = new int[SHEET_ITEMS];

        boolean isMissing() {
            return sort == MISSING;
        }

        void becomeMissing() {
            sort = MISSING;
            count = 0;
        }

        void becomeRow(int ofSort, int n) {
            sort = ofSort;
            count = n;
            for (int i = 0; i < n; i++) {
                items[i] = 0;
            }
        }

        int narrowed(int v) {
            if (sort == BYTES) {
                return (byte) v;
            }
            return sort == SHORTS ? (short) v : v;
        }
    }

    private static final class Shelf {
        static final int HOLDS_NOTHING = 0, HOLDS_TALE = 1, HOLDS_ROW = 2;

        int holds = HOLDS_NOTHING;
        /** Of a tale its number, of a row how many items. */
        int number;
        int sort;

        void holdTale(int tale) {
            holds = HOLDS_TALE;
            number = tale;
        }

        /** The row stays as it is here when the SHEET becomes another one. */
        void holdRow(Sheet sheet) {
            holds = sheet.isMissing() ? HOLDS_NOTHING : HOLDS_ROW;
            number = sheet.count;
            sort = sheet.sort;
        }

        void holdNothing() {
            holds = HOLDS_NOTHING;
        }
    }

    /** THE TAPE, and the reading of the TEXT on it, a NAME, NUMBER or other byte at a time. */
    private static final class Tape {
        static final int AT_END = 0, NAME = 1, NUMBER = 2, OTHER = 3;
        static final int MOST_DIGITS = 3;
        static final int NO_FAULT = -1, NO_SUCH_NAME = -1;

        final byte[] bytes = new byte[TAPE_BYTES];
        int count;
        int found = AT_END;
        int start;
        int end;

        /** For a tape that is not full. */
        void append(byte b) {
            bytes[count] = b;
            count++;
        }

        /** The FAULT, or NO_FAULT; with a fault the parish is half told. */
        int readInto(Parish parish) {
            end = 0;
            advance();
            for (int sentences = 0; sentences <= count && found != AT_END; sentences++) {
                if (!readSentence(parish)) {
                    return start;
                }
            }
            return NO_FAULT;
        }

        /** Each reading of a part stops with start at what can't stand there. */
        boolean readSentence(Parish parish) {
            int kind = namedKind();
            if (kind != NO_SUCH_NAME) {
                return readTale(parish, kind);
            }
            int law = namedLaw();
            if (law != NO_SUCH_NAME) {
                return readLaw(parish, law);
            }
            if (isName("friend")) {
                return readOfHouse(parish.friend, HOUSES - 1);
            }
            if (isName("taste")) {
                return readOfHouse(parish.taste, MOST_TASTE);
            }
            return isName("box") && readBox(parish);
        }

        boolean readTale(Parish parish, int kind) {
            if (parish.tales >= MOST_TALES) {
                return false;
            }
            advance();
            if (!passName("at") || !isNumberTo(HOUSES - 1)) {
                return false;
            }
            int house = takeNumber();
            int heat = HEAT_UNTOLD;
            if (passName("heat")) {
                if (!isNumberTo(MOST_HEAT)) {
                    return false;
                }
                heat = takeNumber();
            }
            parish.add(kind, heat, house);
            return passSemicolon();
        }

        boolean readLaw(Parish parish, int law) {
            advance();
            if (!isNumberTo(LAW_TOP[law])) {
                return false;
            }
            parish.laws[law] = takeNumber();
            return passSemicolon();
        }

        boolean readOfHouse(int[] byHouse, int top) {
            advance();
            if (!isNumberTo(HOUSES - 1)) {
                return false;
            }
            int house = takeNumber();
            if (!passName("is") || !isNumberTo(top)) {
                return false;
            }
            byHouse[house] = takeNumber();
            return passSemicolon();
        }

        boolean readBox(Parish parish) {
            advance();
            if (!isNumberTo(HOUSES - 1)) {
                return false;
            }
            parish.boxes |= 1 << takeNumber();
            return passSemicolon();
        }

        int namedKind() {
            if (isName("tale")) {
                return TALE;
            }
            if (isName("news")) {
                return NEWS;
            }
            if (isName("rumour")) {
                return RUMOUR;
            }
            if (isName("scandal")) {
                return SCANDAL;
            }
            if (isName("whisper")) {
                return WHISPER;
            }
            return isName("truth") ? TRUTH : NO_SUCH_NAME;
        }

        int namedLaw() {
            if (isName("air")) {
                return AIR;
            }
            if (isName("spice")) {
                return SPICE;
            }
            if (isName("crust")) {
                return CRUST;
            }
            return isName("meeting") ? MEETING : NO_SUCH_NAME;
        }

        void advance() {
            start = end;
            while (start < count && bytes[start] == ' ') {
                start++;
            }
            end = start;
            if (start >= count) {
                found = AT_END;
            } else if (isWithin(bytes[start], 'a', 'z')) {
                found = NAME;
                goBehind('a', 'z');
            } else if (isWithin(bytes[start], '0', '9')) {
                found = NUMBER;
                goBehind('0', '9');
            } else {
                found = OTHER;
                end++;
            }
        }

        void goBehind(char least, char most) {
            while (end < count && bytes[end] >= least && bytes[end] <= most) {
                end++;
            }
        }

        boolean isName(String word) {
            if (found != NAME || end - start != word.length()) {
                return false;
            }
            for (int i = 0; i < word.length(); i++) {
                if (bytes[start + i] != word.charAt(i)) {
                    return false;
                }
            }
            return true;
        }

        boolean passName(String word) {
            if (!isName(word)) {
                return false;
            }
            advance();
            return true;
        }

        boolean isNumberTo(int top) {
            return found == NUMBER && end - start <= MOST_DIGITS && numberHere() <= top;
        }

        int numberHere() {
            int v = 0;
            for (int i = start; i < end; i++) {
                v = v * 10 + (bytes[i] - '0');
            }
            return v;
        }

        int takeNumber() {
            int v = numberHere();
            advance();
            return v;
        }

        boolean passSemicolon() {
            if (found != OTHER || bytes[start] != ';') {
                return false;
            }
            advance();
            return true;
        }
    }
}
