/** Promises 37 to 47: sheets, shelves, acts, and what is kept. */
public final class ThingsTest {
    private static final int BAD = -1, NONE = -3;
    private static final int MIN = Integer.MIN_VALUE, MAX = Integer.MAX_VALUE;

    private ThingsTest() {
    }

    public static void main(String[] args) {
        promise37Minds();
        promise37Refuses();
        promise38Sheet();
        promise39Put();
        promise40Item();
        promise41Shelf();
        promise42Taken();
        promise42TakenOfRows();
        promise43Tale();
        promise43NewsAndScandal();
        promise43RumourAndWhisper();
        promise43Truth();
        promise43Parted();
        promise43Refuses();
        promise44Trace();
        promise45Many();
        promise46Keep();
        promise47Again();
        Due.end();
    }

    private static WarmGossip withTales(int tales) {
        WarmGossip x = new WarmGossip();
        for (int i = 0; i < tales; i++) {
            x.tale(0, 50, i);
        }
        return x;
    }

    private static void promise37Minds() {
        WarmGossip x = withTales(8);
        x.sheet(0, 0, 9);
        for (int i = 0; i < 9; i++) {
            x.put(0, i, 10 * i + 5);
        }
        x.put(0, 3, -1);
        x.put(0, 4, 100);
        Due.is("eight", x.minds(0, 1, 0, 8), 8);
        int[] due = {15, 25, 0, 99, 55, 65, 75, 85};
        for (int i = 0; i < 8; i++) {
            Due.is("heat of " + i, x.of(i, 1), due[i]);
        }
        Due.is("from one on", x.minds(0, 0, 6, 2), 2);
        Due.is("heat of 6", x.of(6, 1), 5);
        Due.is("heat of 7", x.of(7, 1), 15);
        Due.is("heat of 5 stays", x.of(5, 1), 65);
        Due.is("none, at the end", x.minds(0, 9, 7, 0), 0);
    }

    private static void promise37Refuses() {
        WarmGossip x = withTales(3);
        x.sheet(0, 0, 4);
        x.sheet(1, 1, 4);
        String before = Parishes.seen(x);
        Due.is("sheet 4", x.minds(4, 0, 0, 1), BAD);
        Due.is("sheet -1", x.minds(-1, 0, 0, 1), BAD);
        Due.is("tale 3", x.minds(0, 0, 3, 0), BAD);
        Due.is("tale -1", x.minds(0, 0, -1, 1), BAD);
        Due.is("n -1", x.minds(0, 0, 0, -1), BAD);
        Due.is("n 9", x.minds(0, 0, 0, 9), BAD);
        Due.is("n MAX", x.minds(0, 0, 1, MAX), BAD);
        Due.is("beyond the last", x.minds(0, 0, 1, 3), BAD);
        Due.is("beyond the last, of a missing one", x.minds(2, 0, 1, 3), BAD);
        Due.is("missing", x.minds(2, 0, 0, 1), -11);
        Due.is("shorts", x.minds(1, 0, 0, 1), -13);
        Due.is("shorts, outside", x.minds(1, 9, 0, 1), -13);
        Due.is("not so many", x.minds(0, 2, 0, 3), -12);
        Due.is("i -1", x.minds(0, -1, 0, 0), -12);
        Due.is("i 5", x.minds(0, 5, 0, 0), -12);
        Due.is("i MAX", x.minds(0, MAX, 0, 3), -12);
        Due.is("i MIN", x.minds(0, MIN, 0, 3), -12);
        Due.holds("nothing changed", before.equals(Parishes.seen(x)));
        Due.is("just so many", x.minds(0, 1, 0, 3), 3);
    }

    private static void promise38Sheet() {
        WarmGossip x = new WarmGossip();
        for (int sort = 0; sort <= 3; sort++) {
            Due.is("forty", x.sheet(sort, sort, 40), 1);
            Due.is("the last is 0", x.item(sort, sort, 39), 0);
            Due.is("no more", x.item(sort, sort, 40), -12);
        }
        x.put(0, 0, 7);
        Due.is("of none", x.sheet(0, 0, 0), 1);
        Due.is("none there", x.item(0, 0, 0), -12);
        Due.is("anew", x.sheet(0, 0, 1), 1);
        Due.is("all 0 anew", x.item(0, 0, 0), 0);
        Due.is("41", x.sheet(0, 0, 41), BAD);
        Due.is("-1", x.sheet(0, 0, -1), -14);
        Due.is("MIN", x.sheet(0, 0, MIN), -14);
        Due.is("sort 4", x.sheet(0, 4, 1), BAD);
        Due.is("sort -2", x.sheet(0, -2, 1), BAD);
        Due.is("sort 4, below 0", x.sheet(0, 4, -1), BAD);
        Due.is("sheet 4", x.sheet(4, 0, 1), BAD);
        Due.is("sheet -1, below 0", x.sheet(-1, 0, -1), BAD);
        Due.is("it stays", x.item(0, 0, 0), 0);
        Due.is("missing, of 41", x.sheet(0, -1, 41), 1);
        Due.is("missing", x.item(0, 0, 0), -11);
        Due.is("missing, of -1", x.sheet(0, -1, -1), 1);
    }

    private static void promise39Put() {
        WarmGossip x = new WarmGossip();
        int[] narrowed = {-128, -32640, 0x12348080, 0x12348080};
        for (int sort = 0; sort <= 3; sort++) {
            x.sheet(sort, sort, 3);
            Due.is("put", x.put(sort, 2, 0x12348080), 1);
            Due.is("narrowed to sort " + sort, x.item(sort, sort, 2), narrowed[sort]);
            Due.is("the one before", x.item(sort, sort, 1), 0);
            Due.is("i 3", x.put(sort, 3, 1), -12);
            Due.is("i -1", x.put(sort, -1, 1), -12);
        }
        x.sheet(0, -1, 0);
        Due.is("missing", x.put(0, 0, 1), -11);
        Due.is("sheet 4", x.put(4, 0, 1), BAD);
        Due.is("sheet -1", x.put(-1, 0, 1), BAD);
    }

    private static void promise40Item() {
        WarmGossip x = new WarmGossip();
        x.sheet(0, 2, 2);
        x.put(0, 1, -13);
        Due.is("as low as a refusal", x.item(0, 2, 1), -13);
        Due.is("as bytes", x.item(0, 0, 1), -13);
        Due.is("as longs, outside", x.item(0, 3, 2), -13);
        Due.is("outside", x.item(0, 2, 2), -12);
        Due.is("before", x.item(0, 2, -1), -12);
        Due.is("missing", x.item(1, 2, 0), -11);
        Due.is("missing, and no such sort", x.item(1, 4, 0), BAD);
        Due.is("sort -1", x.item(0, -1, 0), BAD);
        Due.is("sheet 4", x.item(4, 0, 0), BAD);
        Due.is("sheet -1", x.item(-1, 0, 0), BAD);
    }

    private static void promise41Shelf() {
        WarmGossip x = withTales(2);
        Due.is("a tale", x.shelf(3, 0, 1), 1);
        Due.is("its number", x.taken(3, 0), 1);
        Due.is("tale 2", x.shelf(3, 0, 2), BAD);
        Due.is("tale -1", x.shelf(3, 0, -1), BAD);
        Due.is("sheet 4", x.shelf(3, 1, 4), BAD);
        Due.is("sheet -1", x.shelf(3, 1, -1), BAD);
        Due.is("what 3", x.shelf(3, 3, 0), BAD);
        Due.is("what -1", x.shelf(3, -1, 0), BAD);
        Due.is("shelf 4", x.shelf(4, 0, 0), BAD);
        Due.is("shelf -1", x.shelf(-1, 2, 0), BAD);
        Due.is("it stays", x.taken(3, 0), 1);
        Due.is("a missing row", x.shelf(3, 1, 0), 1);
        Due.is("is nothing", x.taken(3, 10), -11);
        x.shelf(3, 0, 0);
        Due.is("nothing", x.shelf(3, 2, 99), 1);
        Due.is("nothing there", x.taken(3, 0), -11);
        x.shelf(0, 0, 1);
        x.keep();
        x.parish();
        Due.is("no such tale at the time", x.taken(0, 0), -11);
        Due.is("no act", x.act(0, 0, 5), 0);
        x.again();
        Due.is("there is one again", x.taken(0, 0), 1);
    }

    private static void promise42Taken() {
        boolean[][] is = {
            {true, false, false, false, false, false},
            {true, true, false, false, false, false},
            {true, false, true, false, false, false},
            {true, true, false, true, false, false},
            {true, false, true, false, true, false},
            {true, false, false, false, false, true},
        };
        for (int kind = 0; kind < 6; kind++) {
            WarmGossip x = withTales(2);
            x.tale(kind, 9, 0);
            x.shelf(1, 0, 2);
            for (int as = 0; as < 6; as++) {
                Due.is("kind " + kind + " as " + as, x.taken(1, as), is[kind][as] ? 2 : -13);
            }
            for (int as = 10; as <= 13; as++) {
                Due.is("a tale as a row", x.taken(1, as), -13);
            }
            Due.is("as 6", x.taken(1, 6), BAD);
            Due.is("as 9", x.taken(1, 9), BAD);
            Due.is("as 14", x.taken(1, 14), BAD);
            Due.is("as -1", x.taken(1, -1), BAD);
            x.mind(2, 0);
            Due.is("of another kind then", x.taken(1, 5), -13);
        }
    }

    private static void promise42TakenOfRows() {
        WarmGossip x = new WarmGossip();
        for (int sort = 0; sort <= 3; sort++) {
            x.sheet(0, sort, 5 + sort);
            x.shelf(sort, 1, 0);
        }
        for (int sort = 0; sort <= 3; sort++) {
            for (int as = 10; as <= 13; as++) {
                Due.is("a row as " + as, x.taken(sort, as), as == 10 + sort ? 5 + sort : -13);
            }
            for (int as = 0; as < 6; as++) {
                Due.is("a row as a thing", x.taken(sort, as), -13);
            }
        }
        x.sheet(0, -1, 0);
        Due.is("the row is held yet", x.taken(3, 13), 8);
        x.shelf(3, 2, 0);
        Due.is("nothing", x.taken(3, 13), -11);
        Due.is("nothing, and no such as", x.taken(3, 7), BAD);
        Due.is("shelf 4", x.taken(4, 0), BAD);
        Due.is("shelf -1", x.taken(-1, 0), BAD);
    }

    /** On shelf 0 a thing of a kind, with its number and house. */
    private static WarmGossip thing(int kind, int number, int house) {
        WarmGossip x = withTales(number);
        x.tale(kind, 9, house);
        x.shelf(0, 0, number);
        return x;
    }

    private static void acts(WarmGossip x, int act, int v, int due, int... trace) {
        String call = "act " + act + " with " + v;
        Due.is(call, x.act(0, act, v), due);
        Due.is(call + ": bodies", x.many(6), trace.length);
        for (int i = 0; i < trace.length; i++) {
            Due.is(call + ": body " + i, x.trace(i), trace[i]);
        }
        Due.is(call + ": no more bodies", x.trace(trace.length), NONE);
    }

    private static void promise43Tale() {
        WarmGossip x = thing(0, 3, 5);
        acts(x, 0, 10, 17, 10);
        acts(x, 1, 10, 37, 11, 10);
        acts(x, 2, -7, -3, 12);
        acts(x, 3, 10, 37 ^ 160, 13, 11, 10);
        acts(x, 0, MAX, -5, 10);
        x.carry(3, 2);
        acts(x, 2, MIN, MIN, 12);
    }

    private static void promise43NewsAndScandal() {
        WarmGossip x = thing(1, 3, 5);
        acts(x, 0, 10, 17, 10);
        acts(x, 1, 10, 36, 20, 11, 10);
        acts(x, 2, 7, 3, 12);
        acts(x, 3, 10, 36 ^ 160, 13, 20, 11, 10);
        x.mind(3, 3);
        acts(x, 0, 10, 22, 51, 10);
        acts(x, 1, 10, 41, 20, 11, 51, 10);
        acts(x, 2, 7, 4, 50, 12);
        acts(x, 2, MAX - 7, MIN / 2 - 3, 50, 12);
        acts(x, 3, 10, 41 ^ 160, 13, 20, 11, 51, 10);
    }

    private static void promise43RumourAndWhisper() {
        WarmGossip x = thing(2, 1, 3);
        acts(x, 0, 2, -3, 30, 10);
        acts(x, 1, 2, 9, 11, 30, 10);
        acts(x, 2, 9, 4, 12);
        acts(x, 3, 2, 9 ^ 160, 31, 13, 11, 30, 10, 12);
        x.mind(1, 4);
        acts(x, 0, 2, -9, 40, 30, 10);
        acts(x, 1, 2, -14, 41, 11, 40, 30, 10, 40, 30, 10);
        acts(x, 2, 9, 4, 12);
        acts(x, 3, 2, -174, 31, 13, 41, 11, 40, 30, 10, 40, 30, 10, 12);
        x = thing(2, 4, 2);
        acts(x, 3, 1, (2 + 8 ^ 160) - 2, 31, 13, 11, 30, 10, 12);
    }

    private static void promise43Truth() {
        WarmGossip x = thing(5, 2, 5);
        acts(x, 0, 7, 12, 10);
        acts(x, 1, 7, 32, 11, 10);
        acts(x, 2, 9, 6, 61, 12, 10);
        acts(x, 3, 7, (32 ^ 160) - 6, 60, 13, 11, 10);
    }

    private static void promise43Parted() {
        acts(thing(0, 4, 4), 2, 9, -15, 12);
        acts(thing(1, 4, 4), 2, 9, -15, 12);
        acts(thing(2, 4, 4), 3, 9, -15, 31, 13, 11, 30, 10, 12);
        acts(thing(3, 4, 4), 2, 9, -15, 50, 12);
        acts(thing(4, 4, 4), 3, 9, -15, 31, 13, 41, 11, 40, 30, 10, 40, 30, 10, 12);
        acts(thing(5, 4, 4), 2, 9, -15, 61, 12);
        WarmGossip x = thing(5, 4, 4);
        x.act(0, 2, 9);
        acts(x, 3, 9, (30 ^ 160) - 6, 60, 13, 11, 10);
    }

    private static void promise43Refuses() {
        WarmGossip x = thing(0, 0, 1);
        x.sheet(0, 0, 4);
        x.shelf(1, 1, 0);
        int[][] calls = {{4, 0}, {-1, 0}, {0, 4}, {0, -1}, {1, 0}, {2, 0}};
        for (int[] call : calls) {
            x.act(0, 3, 1);
            Due.is("there is a trace", x.many(6), 3);
            Due.is("act(" + call[0] + ", " + call[1] + ")", x.act(call[0], call[1], 9), 0);
            Due.is("no trace then", x.many(6), 0);
            Due.is("no body then", x.trace(0), NONE);
        }
    }

    private static void promise44Trace() {
        WarmGossip x = thing(0, 0, 1);
        Due.is("before any act", x.trace(0), NONE);
        x.act(0, 1, 1);
        Due.is("left first", x.trace(0), 11);
        Due.is("then", x.trace(1), 10);
        Due.is("none", x.trace(2), NONE);
        Due.is("-1", x.trace(-1), NONE);
        Due.is("30", x.trace(30), NONE);
        Due.is("MAX", x.trace(MAX), NONE);
        x.act(0, 0, 1);
        Due.is("of the latest", x.trace(0), 10);
        Due.is("no more of the one before", x.trace(1), NONE);
    }

    private static void promise45Many() {
        WarmGossip x = withTales(4);
        x.carry(3, 0);
        x.warm(1, 0);
        x.house(5, 2, 1);
        x.house(6, 2, 1);
        x.prove(0, 7);
        x.feed(0, 5);
        x.shelf(0, 0, 0);
        x.act(0, 1, 0);
        int[] due = {4, 3, 3, 2, 7, 5, 2};
        for (int what = 0; what <= 6; what++) {
            Due.is("many " + what, x.many(what), due[what]);
        }
        Due.is("what 7", x.many(7), BAD);
        Due.is("what -1", x.many(-1), BAD);
    }

    private static void promise46Keep() {
        WarmGossip x = withTales(2);
        Due.is("keep", x.keep(), 1);
        x.tale(0, 1, 1);
        Due.is("keep again", x.keep(), 1);
        x.parish();
        Due.is("the latest", x.again(), 3);
    }

    private static void promise47Again() {
        WarmGossip x = Parishes.withText("rumour at 3 heat 33;friend 3 is 0;taste 0 is 9;box 2;air 4;spice 5;crust 6;");
        Due.is("nothing is kept", x.again(), NONE);
        x.seed(123);
        x.minutes(1);
        x.sheet(0, 0, 3);
        x.shelf(0, 0, 0);
        x.act(0, 1, 3);
        x.prove(0, 3);
        String before = Parishes.seen(x);
        x.keep();
        for (int round = 0; round < 2; round++) {
            for (int law = 0; law < 4; law++) {
                x.set(law, 1);
            }
            x.house(3, 0, 1);
            x.house(0, 1, 1);
            x.house(2, 2, 0);
            x.mind(0, 5);
            x.tale(1, 1, 1);
            x.minutes(3);
            x.minute();
            Due.holds("all is changed", !before.equals(Parishes.seen(x)));
            Due.is("again", x.again(), 1);
            Due.holds("all is as it was kept", before.equals(Parishes.seen(x)));
        }
        x.prove(0, 2);
        x.put(0, 0, 5);
        x.feed(0, 4);
        x.shelf(0, 2, 0);
        x.act(0, 0, 0);
        x.again();
        Due.is("rows are not kept", x.many(4), 2);
        Due.is("sheets are not kept", x.item(0, 0, 0), 5);
        Due.is("the tape is not kept", x.many(5), 4);
        Due.is("shelves are not kept", x.taken(0, 0), -11);
        Due.is("the trace is not kept", x.many(6), 0);
    }
}
