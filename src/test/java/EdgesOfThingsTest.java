/** Section 3 of the document, ROWS, ACTS, SHEETS, SHELVES, and what is kept: each sentence that names an edge. */
public final class EdgesOfThingsTest {
    private static final int NONE = -3;
    private static final int MIN = Integer.MIN_VALUE, MAX = Integer.MAX_VALUE;
    private static final int[] WILD = {0, 1, -1, 7, -8, MAX, MAX - 1, MAX - 7, MAX - 8, MIN, MIN + 1, 1 << 30,
        (1 << 30) + 1, -(1 << 30), -(1 << 30) - 1, 715827882, 715827883, -715827883};

    private EdgesOfThingsTest() {
    }

    public static void main(String[] args) {
        rowsOneToTen();
        rowsAreTried();
        rowsTakeAnyInt();
        readerOfNone();
        readerOfEach();
        actsWrap();
        partsOfTheLeast();
        parted();
        partedInTheMidst();
        traceOfTheLatest();
        traceOfTheLongest();
        sheetsMissing();
        sheetsOfNone();
        sheetsOfForty();
        sheetsAnew();
        narrowed();
        mindsHeld();
        mindsOfNone();
        mindsOfForty();
        shelvesAtFirst();
        shelvesOfTales();
        shelvesOfRows();
        takenOrOneUnder();
        keptOfNone();
        keptTheLatest();
        keptOfEight();
        manyOfNoneAndAll();
        Due.end();
    }

    private static WarmGossip one(int kind, int heat, int house) {
        WarmGossip x = new WarmGossip();
        x.tale(kind, heat, house);
        return x;
    }

    /** On SHELF 0 a thing of the KIND, whose number is n, AT a. */
    private static WarmGossip thing(int kind, int n, int a) {
        WarmGossip x = new WarmGossip();
        for (int i = 0; i < n; i++) {
            x.tale(0, 1, 0);
        }
        x.tale(kind, 1, a);
        x.shelf(0, 0, n);
        return x;
    }

    /** "behind 1, 2, .. n MINUTES"; "n MINUTES (1 to 10): how many" */
    private static void rowsOneToTen() {
        WarmGossip x = one(0, 50, 0);
        Due.is("none at first", x.many(4), 0);
        Due.is("no ROW 0", x.row(0, 0), -9);
        for (int n = 10; n >= 1; n--) {
            Due.is("how many", x.prove(0, n), n);
            Due.is("so many", x.many(4), n);
            Due.is("the last ROW", x.row(n - 1, 0), n % 8);
            Due.is("none behind it", x.row(n, 0), -9);
            Due.is("nor to alter", x.alterRow(n, 0, 1), -9);
        }
        Due.is("ten again", x.prove(0, 10), 10);
        for (int i = 0; i < 10; i++) {
            Due.is("HOUSE of ROW " + i, x.row(i, 0), (i + 1) % 8);
            Due.is("HEAT of ROW " + i, x.row(i, 1), 47 - 3 * i);
            Due.is("HEARD of ROW " + i, x.row(i, 2), i < 7 ? (4 << i) - 1 : 255);
        }
        Due.is("a refused one leaves them", x.prove(0, 11), -1);
        Due.is("ten", x.many(4), 10);
    }

    private static void rowsAreTried() {
        WarmGossip x = one(5, 50, 0);
        x.minutes(2);
        Due.is("from the MINUTE that it is now", x.prove(0, 4), 4);
        int[] house = {1, 2, 2, 2};
        for (int i = 0; i < 4; i++) {
            Due.is("its HOUSE", x.row(i, 0), house[i]);
            Due.is("its HEAT", x.row(i, 1), 53 + i);
        }
        Due.is("MINUTE is as it was", x.state(0), 2);
        Due.is("HEAT is as it was", x.of(0, 1), 52);
        x.tale(0, 9, 7);
        x.keep();
        Due.is("they are of the one", x.row(0, 0), 1);
        Parishes.feed(x, "box 1;");
        x.parish();
        Due.is("there are no ROWS then", x.many(4), 0);
        Due.is("not one", x.row(0, 0), -9);
    }

    /** "It becomes v: what it was." of any int. */
    private static void rowsTakeAnyInt() {
        WarmGossip x = one(0, 50, 0);
        x.prove(0, 10);
        for (int v : WILD) {
            x.alterRow(9, 2, v);
            Due.is("altered", x.row(9, 2), v);
            Due.is("what it was", x.alterRow(9, 2, 5), v);
            Due.is("the one before", x.row(9, 1), 20);
        }
    }

    /** "0 all is right (also if there are none)" */
    private static void readerOfNone() {
        WarmGossip x = one(0, 50, 0);
        Due.is("none at first", x.judge(0), 0);
        x.prove(0, 3);
        x.alterRow(0, 0, 9);
        Due.is("wrong", x.judge(0), 1);
        Due.is("a text", Parishes.feed(x, "tale at 0;"), 10);
        x.parish();
        Due.is("none then", x.judge(0), 0);
    }

    /** "else the first ROW that isn't, and 1 more" */
    private static void readerOfEach() {
        WarmGossip x = one(0, 50, 0);
        x.prove(0, 10);
        Due.is("all ten", x.judge(0), 0);
        for (int i = 0; i < 10; i++) {
            for (int what = 0; what < 3; what++) {
                int was = x.alterRow(i, what, -1);
                Due.is("ROW " + i, x.judge(0), i + 1);
                x.alterRow(i, what, was);
            }
        }
        Due.is("all ten again", x.judge(0), 0);
        for (int i = 9; i >= 0; i--) {
            x.alterRow(i, 1, 98);
            Due.is("the first of several", x.judge(0), i + 1);
        }
        x = one(0, 50, 0);
        x.prove(0, 10);
        x.tale(0, 50, 0);
        Due.is("another that is the same", x.judge(1), 0);
        x.warm(1, 51);
        Due.is("another HEAT", x.judge(1), 1);
        x.house(7, 2, 1);
        Due.is("right up to the BOX", x.judge(0), 7);
    }

    private static int tale(int n, int a, int act, int x) {
        long steams = 2L * x - n;
        int smells = (int) (steams + 4 * a);
        switch (act) {
            case 0: return (int) steams;
            case 1: return smells;
            case 2: return (int) ((long) x / (a - n));
            default: return smells ^ 160;
        }
    }

    private static int news(int n, int a, int act, int x) {
        int smells = (int) (2L * x - n + 4 * a - 1);
        return act == 1 ? smells : act == 3 ? smells ^ 160 : tale(n, a, act, x);
    }

    private static int scandal(int n, int a, int act, int x) {
        long steams = 2L * x - n + a;
        int smells = (int) (steams + 4 * a - 1);
        switch (act) {
            case 0: return (int) steams;
            case 1: return smells;
            case 2: return (int) ((long) (int) (x + 8L) / (a - n) - n);
            default: return smells ^ 160;
        }
    }

    private static int rumour(int n, int a, int act, int x) {
        long steams = n - 2L * x;
        int smells = (int) (steams + 4 * a);
        switch (act) {
            case 0: return (int) steams;
            case 1: return smells;
            case 2: return tale(n, a, act, x);
            default: return (int) ((smells ^ 160) + (long) (n / (a - n)));
        }
    }

    private static int whisper(int n, int a, int act, int x) {
        long steams = 3 * (n - 2L * x);
        int smells = (int) (steams + 4 * a) ^ 3 * (n - 2 * a);
        switch (act) {
            case 0: return (int) steams;
            case 1: return smells;
            case 2: return tale(n, a, act, x);
            default: return (int) ((smells ^ 160) + (long) (n / (a - n)));
        }
    }

    private static int truth(int n, int a, int act, int x) {
        switch (act) {
            case 2: return (int) ((long) x / (a - n) * n);
            case 3: return (int) ((long) tale(n, a, 3, x) - 6);
            default: return tale(n, a, act, x);
        }
    }

    private static int due(int kind, int n, int a, int act, int x) {
        switch (kind) {
            case 0: return tale(n, a, act, x);
            case 1: return news(n, a, act, x);
            case 2: return rumour(n, a, act, x);
            case 3: return scandal(n, a, act, x);
            case 4: return whisper(n, a, act, x);
            default: return truth(n, a, act, x);
        }
    }

    /** "ints that wrap", of each KIND, number, HOUSE, ACT: told out of numbers of 64 bits, cut at the end. */
    private static void actsWrap() {
        for (int kind = 0; kind < 6; kind++) {
            for (int n = 0; n < 8; n++) {
                for (int a = 0; a < 8; a++) {
                    WarmGossip x = thing(kind, n, a);
                    for (int act = 0; act < 4 && a != n; act++) {
                        for (int v : WILD) {
                            Due.is("kind " + kind + ", n " + n + ", a " + a + ", act " + act + " with " + v,
                                x.act(0, act, v), due(kind, n, a, act, v));
                        }
                    }
                }
            }
        }
    }

    /** "x by (a - n), cut": the least int by -1 wraps to itself. */
    private static void partsOfTheLeast() {
        Due.is("the least by -1", thing(0, 1, 0).act(0, 2, MIN), MIN);
        Due.is("the least by 1", thing(0, 0, 1).act(0, 2, MIN), MIN);
        Due.is("the greatest by -1", thing(0, 1, 0).act(0, 2, MAX), -MAX);
        Due.is("-1 by 7", thing(0, 0, 7).act(0, 2, -1), 0);
        Due.is("-7 by 7", thing(0, 0, 7).act(0, 2, -7), -1);
        Due.is("-8 by 7", thing(0, 0, 7).act(0, 2, -8), -1);
        Due.is("8 by -7", thing(0, 7, 0).act(0, 2, 8), -1);
        Due.is("the least by -1, of scandal", thing(3, 1, 0).act(0, 2, MAX - 7), MAX);
        Due.is("an answer of -15 that is none parted by 0", thing(0, 0, 1).act(0, 2, -15), -15);
    }

    /** "(-15 if these are the same; that is all that act() answers then)" */
    private static void parted() {
        boolean[] burns = {false, false, true, false, true, false};
        for (int kind = 0; kind < 6; kind++) {
            for (int n = 0; n < 8; n++) {
                WarmGossip x = thing(kind, n, n);
                for (int v : WILD) {
                    Due.is("kind " + kind + " parts, n " + n, x.act(0, 2, v), -15);
                }
                Due.is("kind " + kind + " burns, n " + n, x.act(0, 3, 5) == -15 ? 1 : 0, burns[kind] ? 1 : 0);
                Due.holds("kind " + kind + " steams, n " + n, x.act(0, 0, 50) != -15);
                Due.holds("kind " + kind + " smells, n " + n, x.act(0, 1, 50) != -15);
            }
        }
    }

    private static void bodies(String name, WarmGossip x, int... due) {
        Due.is(name + ": bodies", x.many(6), due.length);
        for (int i = 0; i < due.length; i++) {
            Due.is(name + ": body " + i, x.trace(i), due[i]);
        }
        Due.is(name + ": none behind", x.trace(due.length), NONE);
    }

    /** The bodies that ran are those that began before. */
    private static void partedInTheMidst() {
        WarmGossip x = thing(5, 2, 2);
        x.act(0, 2, 9);
        bodies("truth", x, 61, 12);
        x = thing(3, 2, 2);
        x.act(0, 2, 9);
        bodies("scandal", x, 50, 12);
        x = thing(2, 2, 2);
        x.act(0, 3, 9);
        bodies("rumour", x, 31, 13, 11, 30, 10, 12);
        x.carry(2, 3);
        x.act(0, 2, 9);
        bodies("rumour, not parted by 0", x, 12);
    }

    /** "numbers of the bodies that ran in the latest act(), as they began (left first)" */
    private static void traceOfTheLatest() {
        WarmGossip x = new WarmGossip();
        bodies("at first", x);
        x.tale(1, 5, 3);
        x.shelf(0, 0, 0);
        bodies("before any", x);
        x.act(0, 3, 1);
        bodies("news burns", x, 13, 20, 11, 10);
        x.taken(0, 0);
        x.minutes(1);
        x.keep();
        x.again();
        x.parish();
        bodies("no other call changes it", x, 13, 20, 11, 10);
        x.act(0, 0, 1);
        bodies("of a thing that is gone", x);
    }

    /** "the first 30 are kept": the most that run are eleven. */
    private static void traceOfTheLongest() {
        WarmGossip x = thing(4, 3, 5);
        x.act(0, 3, 77);
        bodies("whisper burns", x, 31, 13, 41, 11, 40, 30, 10, 40, 30, 10, 12);
        for (int i : new int[] {-1, 11, 29, 30, 31, MIN, MAX}) {
            Due.is("no body " + i, x.trace(i), NONE);
        }
    }

    /** "or missing (at first)" */
    private static void sheetsMissing() {
        WarmGossip x = one(0, 5, 0);
        for (int sheet = 0; sheet < 4; sheet++) {
            for (int sort = 0; sort < 4; sort++) {
                Due.is("item of a missing one", x.item(sheet, sort, 0), -11);
            }
            Due.is("put into a missing one", x.put(sheet, 0, 0), -11);
            Due.is("minds of a missing one", x.minds(sheet, 0, 0, 0), -11);
            Due.is("fits of a missing one", x.fits(sheet, 0, 0), -11);
            Due.is("the row of a missing one", x.shelf(sheet, 1, sheet), 1);
            Due.is("is nothing", x.taken(sheet, 10), -11);
            Due.is("is nothing", x.taken(sheet, 0), -11);
            Due.is("becomes a row", x.sheet(sheet, 0, 1), 1);
            Due.is("is there", x.item(sheet, 0, 0), 0);
            Due.is("becomes missing", x.sheet(sheet, -1, 1), 1);
            Due.is("is missing", x.item(sheet, 0, 0), -11);
            Due.is("becomes missing again", x.sheet(sheet, -1, 1), 1);
        }
    }

    /** A row of no items is not missing. */
    private static void sheetsOfNone() {
        WarmGossip x = one(0, 5, 0);
        for (int sort = 0; sort < 4; sort++) {
            Due.is("of none", x.sheet(sort, sort, 0), 1);
            Due.is("no item", x.item(sort, sort, 0), -12);
            Due.is("of another sort", x.item(sort, (sort + 1) % 4, 0), -13);
            Due.is("nothing to put", x.put(sort, 0, 1), -12);
            Due.is("all fit", x.fits(sort, 0, 0), 100);
            Due.is("all fit, from 0", x.fits(sort, 0, 1), 0);
            Due.is("on a shelf", x.shelf(sort, 1, sort), 1);
            Due.is("a row of none", x.taken(sort, 10 + sort), 0);
        }
    }

    /** "40 at most" */
    private static void sheetsOfForty() {
        for (int sort = 0; sort < 4; sort++) {
            WarmGossip x = one(0, 5, 0);
            Due.is("forty", x.sheet(0, sort, 40), 1);
            for (int i = 0; i < 40; i++) {
                Due.is("all 0", x.item(0, sort, i), 0);
                Due.is("put", x.put(0, i, 3 * i), 1);
            }
            for (int i = 0; i < 40; i++) {
                Due.is("item " + i, x.item(0, sort, i), 3 * i);
            }
            Due.is("none behind", x.item(0, sort, 40), -12);
            Due.is("none to put", x.put(0, 40, 1), -12);
            x.shelf(0, 1, 0);
            Due.is("on a shelf", x.taken(0, 10 + sort), 40);
            Due.is("forty-one", x.sheet(0, sort, 41), -1);
            Due.is("it is as it was", x.item(0, sort, 39), 117);
            Due.is("another sheet is missing", x.item(1, sort, 0), -11);
        }
    }

    /** "A SHEET becomes a row of n of a sort, all 0" */
    private static void sheetsAnew() {
        WarmGossip x = new WarmGossip();
        x.sheet(2, 3, 40);
        for (int i = 0; i < 40; i++) {
            x.put(2, i, -1);
        }
        x.sheet(2, 1, 39);
        Due.is("no longer longs", x.item(2, 3, 0), -13);
        for (int i = 0; i < 39; i++) {
            Due.is("all 0", x.item(2, 1, i), 0);
        }
        Due.is("one less", x.item(2, 1, 39), -12);
        x.sheet(2, 1, 40);
        Due.is("0 at its end", x.item(2, 1, 39), 0);
        x.put(2, 39, 7);
        x.sheet(2, -1, 0);
        x.sheet(2, 1, 40);
        Due.is("0 behind missing", x.item(2, 1, 39), 0);
    }

    private static void narrowed(WarmGossip x, int v, int asByte, int asShort) {
        int[] due = {asByte, asShort, v, v};
        for (int sort = 0; sort < 4; sort++) {
            Due.is("put " + v, x.put(sort, 0, v), 1);
            Due.is(v + " narrowed to sort " + sort, x.item(sort, sort, 0), due[sort]);
        }
    }

    /** "narrowed to its sort"; "of longs the lowest 32 bits" */
    private static void narrowed() {
        WarmGossip x = new WarmGossip();
        for (int sort = 0; sort < 4; sort++) {
            x.sheet(sort, sort, 1);
        }
        narrowed(x, 127, 127, 127);
        narrowed(x, 128, -128, 128);
        narrowed(x, 255, -1, 255);
        narrowed(x, 256, 0, 256);
        narrowed(x, -128, -128, -128);
        narrowed(x, -129, 127, -129);
        narrowed(x, 32767, -1, 32767);
        narrowed(x, 32768, 0, -32768);
        narrowed(x, 65535, -1, -1);
        narrowed(x, 65536, 0, 0);
        narrowed(x, -32768, 0, -32768);
        narrowed(x, -32769, -1, 32767);
        narrowed(x, MAX, -1, -1);
        narrowed(x, MIN, 0, 0);
        narrowed(x, MIN + 1, 1, 1);
        narrowed(x, -1, -1, -1);
    }

    /** "(held to 0 to 99)" */
    private static void mindsHeld() {
        int[] puts = {-128, -1, 0, 1, 98, 99, 100, 127, 128, 255, 256, 355};
        int[] heat = {0, 0, 0, 1, 98, 99, 99, 99, 0, 0, 0, 99};
        WarmGossip x = one(0, 50, 0);
        x.sheet(0, 0, puts.length);
        for (int i = 0; i < puts.length; i++) {
            x.put(0, i, puts[i]);
            x.warm(0, 50);
            Due.is("minds", x.minds(0, i, 0, 1), 1);
            Due.is("HEAT by " + puts[i], x.of(0, 1), heat[i]);
        }
    }

    /** "i is not 0 to how many items there are (also for n 0), or there are not so many" */
    private static void mindsOfNone() {
        WarmGossip x = one(0, 50, 0);
        x.tale(0, 50, 0);
        for (int items = 0; items <= 2; items++) {
            x.sheet(0, 0, items);
            for (int i = -1; i <= items + 1; i++) {
                for (int n = 0; n <= 2; n++) {
                    int due = i < 0 || i + n > items ? -12 : n;
                    Due.is("of " + items + " from " + i + " on " + n, x.minds(0, i, 0, n), due);
                }
            }
        }
        x.sheet(0, 0, 0);
        Due.is("none of none from the last on", x.minds(0, 0, 1, 0), 0);
        Due.is("none from behind the last on", x.minds(0, 0, 2, 0), -1);
        Due.is("one beyond the last", x.minds(0, 0, 1, 2), -1);
    }

    /** All eight from the last of forty items. */
    private static void mindsOfForty() {
        WarmGossip x = new WarmGossip();
        for (int i = 0; i < 8; i++) {
            x.tale(0, 50, 0);
        }
        x.sheet(3, 0, 40);
        for (int i = 0; i < 40; i++) {
            x.put(3, i, i);
        }
        Due.is("the last eight", x.minds(3, 32, 0, 8), 8);
        for (int i = 0; i < 8; i++) {
            Due.is("HEAT of " + i, x.of(i, 1), 32 + i);
        }
        Due.is("one too late", x.minds(3, 33, 0, 8), -12);
        Due.is("one too many", x.minds(3, 0, 1, 8), -1);
        Due.is("one, of the last", x.minds(3, 39, 7, 1), 1);
        Due.is("HEAT of the last", x.of(7, 1), 39);
        Due.is("none behind all", x.minds(3, 40, 7, 0), 0);
        Due.is("one behind all", x.minds(3, 40, 7, 1), -12);
        Due.is("none behind that", x.minds(3, 41, 7, 0), -12);
    }

    /** "or nothing (at first)" */
    private static void shelvesAtFirst() {
        WarmGossip x = new WarmGossip();
        for (int shelf = 0; shelf < 4; shelf++) {
            for (int as = 0; as < 14; as++) {
                Due.is("nothing as " + as, x.taken(shelf, as), as > 5 && as < 10 ? -1 : -11);
            }
            for (int act = 0; act < 4; act++) {
                Due.is("no act", x.act(shelf, act, 9), 0);
            }
            Due.is("no tale to hold", x.shelf(shelf, 0, 0), -1);
            Due.is("nothing again", x.shelf(shelf, 2, 0), 1);
        }
    }

    /** "one of the TALES (by its number; nothing, if there is no such one at the time)" */
    private static void shelvesOfTales() {
        WarmGossip x = new WarmGossip();
        for (int i = 0; i < 8; i++) {
            x.tale(i % 6, 9, i);
        }
        for (int shelf = 0; shelf < 4; shelf++) {
            x.shelf(shelf, 0, 2 * shelf + 1);
            Due.is("its number", x.taken(shelf, 0), 2 * shelf + 1);
        }
        x.keep();
        Parishes.feed(x, "truth at 6;rumour at 2;scandal at 3;news at 4;");
        x.parish();
        Due.is("another of that number", x.taken(0, 2), 1);
        Due.is("its act", x.act(0, 0, 10), -19);
        Due.is("the last of that number", x.taken(1, 1), 3);
        Due.is("no such one at the time", x.taken(2, 0), -11);
        Due.is("no act of it", x.act(2, 0, 10), 0);
        Due.is("nor as a row", x.taken(3, 10), -11);
        x.tale(5, 1, 1);
        Due.is("not yet", x.taken(2, 5), -11);
        x.tale(5, 1, 1);
        Due.is("one of that number", x.taken(2, 5), 5);
        x.again();
        Due.is("as it was kept", x.taken(3, 0), 7);
        Due.is("another again", x.taken(2, 5), 5);
    }

    /** "a SHEET's row": what it is when it comes on the SHELF. */
    private static void shelvesOfRows() {
        WarmGossip x = one(0, 9, 0);
        x.sheet(0, 0, 40);
        x.sheet(1, 3, 0);
        x.shelf(0, 1, 0);
        x.shelf(1, 1, 1);
        x.shelf(2, 1, 0);
        x.shelf(3, 0, 0);
        Due.is("forty bytes", x.taken(0, 10), 40);
        Due.is("no longs", x.taken(1, 13), 0);
        Due.is("the same row twice", x.taken(2, 10), 40);
        Due.is("a row is no thing", x.taken(0, 0), -13);
        Due.is("a thing is no row", x.taken(3, 10), -13);
        x.parish();
        Due.is("a row stays", x.taken(0, 10), 40);
        x.shelf(2, 2, 0);
        Due.is("another shelf stays", x.taken(0, 10), 40);
        x.shelf(0, 1, 3);
        Due.is("the row of a missing one", x.taken(0, 10), -11);
        Due.is("is no thing", x.taken(0, 0), -11);
    }

    /** "a thing of KIND as (.., or one under it)" */
    private static void takenOrOneUnder() {
        int[] above = {-1, 0, 0, 1, 2, 0};
        WarmGossip x = one(0, 9, 0);
        x.shelf(0, 0, 0);
        for (int kind = 0; kind < 6; kind++) {
            x.mind(0, kind);
            for (int as = 0; as < 6; as++) {
                boolean is = as == kind || as == 0 || as == above[kind];
                Due.is("KIND " + kind + " as " + as, x.taken(0, as), is ? 0 : -13);
            }
        }
    }

    /** "NONE: nothing is kept", and a parish of no TALES. */
    private static void keptOfNone() {
        WarmGossip x = new WarmGossip();
        Due.is("nothing is kept", x.again(), NONE);
        Due.is("keep", x.keep(), 1);
        x.tale(0, 50, 0);
        x.set(0, 9);
        x.house(7, 2, 1);
        x.minutes(7);
        x.seed(-4);
        Due.is("no TALES were kept", x.again(), 0);
        Due.is("no TALES", x.many(0), 0);
        Due.is("AIR", x.lawOf(0), 3);
        Due.is("no BOX", x.state(4), 0);
        Due.is("MINUTE", x.state(0), 0);
        Due.is("z", x.seed(9), 1);
        Due.is("the first again", x.tale(4, 8, 2), 0);
        Due.is("HEARD anew", x.of(0, 3), 4);
    }

    /** "what was kept latest (which stays)" */
    private static void keptTheLatest() {
        WarmGossip x = one(0, 50, 0);
        x.keep();
        x.tale(1, 40, 1);
        x.keep();
        x.tale(2, 30, 2);
        for (int round = 0; round < 3; round++) {
            Due.is("the latest", x.again(), 2);
            Due.is("its HEAT", x.of(1, 1), 40);
            x.minutes(3);
            x.mind(0, 4);
            x.carry(1, 7);
            x.house(3, 0, 0);
        }
        Due.is("it stays", x.again(), 2);
        Due.is("its KIND", x.of(0, 0), 0);
        Due.is("AT", x.of(1, 2), 1);
        Due.is("its FRIEND", x.houseOf(3, 0), 4);
        x.parish();
        Due.is("a text leaves it", x.again(), 2);
    }

    private static void keptOfEight() {
        WarmGossip x = new WarmGossip();
        for (int i = 0; i < 8; i++) {
            x.tale(i % 6, 11 * i, i);
        }
        x.keep();
        x.parish();
        Due.is("none", x.many(0), 0);
        Due.is("eight", x.again(), 8);
        for (int i = 0; i < 8; i++) {
            Due.is("KIND", x.of(i, 0), i % 6);
            Due.is("HEAT", x.of(i, 1), 11 * i);
            Due.is("AT", x.of(i, 2), i);
            Due.is("HEARD", x.of(i, 3), 1 << i);
        }
        Due.is("a ninth", x.tale(0, 0, 0), -2);
    }

    /** many(): nothing, and all full. */
    private static void manyOfNoneAndAll() {
        WarmGossip x = new WarmGossip();
        for (int what = 0; what <= 6; what++) {
            Due.is("many " + what + " of nothing", x.many(what), 0);
        }
        for (int i = 0; i < 8; i++) {
            x.tale(4, 99, i);
            x.house(i, 2, 1);
        }
        x.prove(7, 10);
        Parishes.feed(x, " ".repeat(200));
        x.carry(7, 0);
        x.shelf(0, 0, 7);
        x.act(0, 3, 1);
        int[] due = {8, 8, 7, 8, 10, 200, 11};
        for (int what = 0; what <= 6; what++) {
            Due.is("many " + what + " of all", x.many(what), due[what]);
        }
        x.warm(3, 0);
        Due.is("above 0", x.many(1), 7);
        x.warm(3, 1);
        Due.is("1 is above 0", x.many(1), 8);
    }
}
