/** Terms: of several refusals the first named, and that a refused call changes nothing (but for THE TAPE). */
public final class RefusalsTest {
    private static final int BAD = -1, FULL = -2, NONE = -3;
    private static final int MIN = Integer.MIN_VALUE, MAX = Integer.MAX_VALUE;

    private interface Call {
        long of(WarmGossip x);
    }

    private RefusalsTest() {
    }

    public static void main(String[] args) {
        firstNamedOfTapeAndTales();
        firstNamedOfTries();
        firstNamedOfMinds();
        firstNamedOfSheets();
        firstNamedOfShelves();
        fullChangesNothing();
        noneChangesNothing();
        whatTheHostRefusesChangesNothing();
        faultUsesUpTheTapeAlone();
        partedBy0ChangesNothing();
        againOfNothing();
        Due.end();
    }

    private static void full8(WarmGossip x) {
        for (int i = x.many(0); i < 8; i++) {
            x.tale(i % 6, 9 * i, i);
        }
    }

    /** BAD; FULL. */
    private static void firstNamedOfTapeAndTales() {
        WarmGossip x = new WarmGossip();
        for (int i = 0; i < 25; i++) {
            x.feed(0, 8);
        }
        Due.is("feed: full", x.feed(0, 1), FULL);
        Due.is("feed: full by eight", x.feed(0, 8), FULL);
        Due.is("feed: n 0, and full", x.feed(0, 0), BAD);
        Due.is("feed: n 9, and full", x.feed(0, 9), BAD);
        Due.is("feed: n -1, and full", x.feed(0, -1), BAD);
        full8(x);
        Due.is("tale: full", x.tale(5, 99, 7), FULL);
        Due.is("tale: kind 6, and full", x.tale(6, 99, 7), BAD);
        Due.is("tale: kind -1, and full", x.tale(-1, 99, 7), BAD);
        Due.is("tale: heat 100, and full", x.tale(5, 100, 7), BAD);
        Due.is("tale: heat -1, and full", x.tale(5, -1, 7), BAD);
        Due.is("tale: house 8, and full", x.tale(5, 99, 8), BAD);
        Due.is("tale: house -1, and full", x.tale(5, 99, -1), BAD);
    }

    /** BAD; NONE, and of fits BAD; -11; NONE. */
    private static void firstNamedOfTries() {
        WarmGossip x = new WarmGossip();
        x.tale(0, 9, 0);
        x.house(1, 1, 99);
        x.set(0, 0);
        Due.is("comes: none", x.comes(0, 3), NONE);
        Due.is("cold: none", x.cold(0), NONE);
        Due.is("whole: none", x.whole(0), NONE);
        Due.is("home: none, as it is cold there", homeOfCold(), NONE);
        Due.is("boxFor: none", x.boxFor(0, 30), NONE);
        Due.is("boxFor: n 31, and none", x.boxFor(0, 31), BAD);
        x.set(0, 1);
        x.house(2, 1, 99);
        Due.is("heatFor: none", x.heatFor(0, 3, 30), NONE);
        Due.is("heatFor: n 31, and none", x.heatFor(0, 3, 31), BAD);
        Due.is("keptFor: none", x.keptFor(0, 20, 99), NONE);
        Due.is("keptFor: n 21, and none", x.keptFor(0, 21, 99), BAD);
        Due.is("keptFor: v 100, and none", x.keptFor(0, 20, 100), BAD);
        x.sheet(0, 0, 1);
        x.put(0, 0, 9);
        Due.is("fits: none", x.fits(0, 0, 1), NONE);
        Due.is("fits: none, in number", x.fits(0, 0, 0), 0);
        Due.is("fits: what 2, and none", x.fits(0, 0, 2), BAD);
        Due.is("fits: missing", x.fits(1, 0, 1), -11);
        Due.is("fits: missing, no such sheet", x.fits(4, 0, 1), BAD);
        Due.is("fits: missing, no such tale", x.fits(1, 1, 1), BAD);
        Due.is("fits: missing, no such what", x.fits(1, 0, -1), BAD);
    }

    private static int homeOfCold() {
        WarmGossip x = new WarmGossip();
        x.tale(0, 0, 0);
        return x.home(0);
    }

    /** BAD; -11; -13; -12, in this order. */
    private static void firstNamedOfMinds() {
        WarmGossip x = new WarmGossip();
        x.tale(0, 9, 0);
        x.tale(0, 9, 0);
        x.sheet(1, 2, 3);
        x.sheet(2, 0, 3);
        Due.is("no such sheet, tale, n", x.minds(4, 9, 2, 9), BAD);
        Due.is("no such tale, of a missing one", x.minds(0, 9, 2, 0), BAD);
        Due.is("no such tale, of ints", x.minds(1, 9, 2, 0), BAD);
        Due.is("no such tale, outside", x.minds(2, 9, 2, 0), BAD);
        Due.is("beyond the last, of a missing one", x.minds(0, 9, 0, 3), BAD);
        Due.is("beyond the last, of ints", x.minds(1, 9, 0, 3), BAD);
        Due.is("beyond the last, outside", x.minds(2, 9, 0, 3), BAD);
        Due.is("beyond the last, not so many", x.minds(2, 1, 0, 3), BAD);
        Due.is("n -1, outside", x.minds(2, 4, 0, -1), BAD);
        Due.is("missing, outside", x.minds(0, 9, 0, 2), -11);
        Due.is("missing, outside, for none", x.minds(0, -1, 0, 0), -11);
        Due.is("ints, outside", x.minds(1, 9, 0, 2), -13);
        Due.is("ints, outside, for none", x.minds(1, -1, 0, 0), -13);
        Due.is("ints, not so many", x.minds(1, 2, 0, 2), -13);
        Due.is("outside, for none", x.minds(2, 4, 0, 0), -12);
        Due.is("not so many", x.minds(2, 2, 0, 2), -12);
        Due.is("just so many", x.minds(2, 1, 0, 2), 2);
    }

    /** sheet: BAD; -14. put: BAD; -11; -12. item: BAD; -11; -13; -12. */
    private static void firstNamedOfSheets() {
        WarmGossip x = new WarmGossip();
        Due.is("sheet: no such one, below 0", x.sheet(4, 0, -1), BAD);
        Due.is("sheet: no such sort, below 0", x.sheet(0, 4, -1), BAD);
        Due.is("sheet: sort -2, below 0", x.sheet(0, -2, -1), BAD);
        Due.is("sheet: below 0", x.sheet(0, 3, -1), -14);
        Due.is("sheet: missing, n counts nothing", x.sheet(0, -1, -1), 1);
        Due.is("sheet: missing, n counts nothing", x.sheet(0, -1, 41), 1);
        Due.is("sheet: missing, n counts nothing", x.sheet(0, -1, MIN), 1);
        Due.is("put: no such one, outside", x.put(4, -1, 0), BAD);
        Due.is("put: missing, outside", x.put(0, -1, 0), -11);
        Due.is("put: missing, outside", x.put(0, MAX, 0), -11);
        Due.is("item: no such one, outside", x.item(-1, 0, -1), BAD);
        Due.is("item: missing, no such sort", x.item(0, 4, -1), BAD);
        Due.is("item: missing, outside", x.item(0, 0, -1), -11);
        x.sheet(0, 1, 2);
        Due.is("item: no such sort, outside", x.item(0, -1, 2), BAD);
        Due.is("item: another sort, outside", x.item(0, 0, 2), -13);
        Due.is("item: another sort, before", x.item(0, 3, -1), -13);
        Due.is("item: outside", x.item(0, 1, 2), -12);
    }

    /** BAD; -11; -13. */
    private static void firstNamedOfShelves() {
        WarmGossip x = new WarmGossip();
        x.tale(1, 9, 0);
        x.shelf(0, 0, 0);
        x.sheet(0, 2, 5);
        x.shelf(1, 1, 0);
        Due.is("nothing, no such shelf", x.taken(4, 0), BAD);
        Due.is("nothing, no such as", x.taken(2, 6), BAD);
        Due.is("a thing, no such as", x.taken(0, 9), BAD);
        Due.is("a row, no such as", x.taken(1, 14), BAD);
        Due.is("nothing, as a thing", x.taken(2, 1), -11);
        Due.is("nothing, as a row", x.taken(2, 12), -11);
        Due.is("a thing, as one of another kind", x.taken(0, 2), -13);
        Due.is("a thing, as a row", x.taken(0, 12), -13);
        Due.is("a row, as a thing", x.taken(1, 0), -13);
        Due.is("a row, as one of another sort", x.taken(1, 11), -13);
        Due.is("no such shelf, what, thing", x.shelf(4, 3, 9), BAD);
    }

    private static void unchanged(String name, int due, Call call) {
        WarmGossip x = Parishes.some();
        Due.is(name, call.of(x), due);
        Due.holds(name + " changes nothing", Parishes.all(x).equals(Parishes.all(Parishes.some())));
    }

    private static void fullChangesNothing() {
        WarmGossip x = Parishes.some();
        WarmGossip y = Parishes.some();
        full8(x);
        full8(y);
        Due.is("a ninth", x.tale(0, 50, 3), FULL);
        Due.holds("a ninth changes nothing", Parishes.all(x).equals(Parishes.all(y)));
        x = new WarmGossip();
        y = new WarmGossip();
        Parishes.feed(x, "box 2;" + " ".repeat(190) + "ai");
        Parishes.feed(y, "box 2;" + " ".repeat(190) + "ai");
        Due.is("three for two places", x.feed('r' | '5' << 8 | ';' << 16, 3), FULL);
        Due.is("none of them came", x.many(5), 198);
        Due.holds("what is too much changes nothing", Parishes.all(x).equals(Parishes.all(y)));
    }

    private static void noneChangesNothing() {
        unchanged("comes", NONE, x -> x.comes(2, 3));
        unchanged("cold", NONE, x -> x.cold(1));
        unchanged("whole", NONE, x -> x.whole(2));
        unchanged("boxFor", NONE, x -> x.boxFor(1, 30));
        unchanged("heatFor", NONE, x -> x.heatFor(0, 1, 0));
        unchanged("keptFor", NONE, x -> x.keptFor(0, 20, 99));
        unchanged("fits", NONE, x -> x.fits(0, 0, 1));
        unchanged("trace", NONE, x -> x.trace(2));
        WarmGossip x = Parishes.some();
        WarmGossip y = Parishes.some();
        x.warm(0, 0);
        y.warm(0, 0);
        Due.is("home", x.home(0), NONE);
        Due.holds("home changes nothing", Parishes.all(x).equals(Parishes.all(y)));
    }

    private static void whatTheHostRefusesChangesNothing() {
        unchanged("row", -9, x -> x.row(4, 0));
        unchanged("alterRow, no such row", -9, x -> x.alterRow(4, 0, 1));
        unchanged("alterRow, no such what", -9, x -> x.alterRow(0, 3, 1));
        unchanged("minds of a missing one", -11, x -> x.minds(2, 0, 0, 1));
        unchanged("minds of shorts", -13, x -> x.minds(1, 0, 0, 1));
        unchanged("minds of not so many", -12, x -> x.minds(0, 1, 0, 3));
        unchanged("minds beyond the last", BAD, x -> x.minds(0, 0, 1, 3));
        unchanged("sheet below 0", -14, x -> x.sheet(0, 1, -1));
        unchanged("put into a missing one", -11, x -> x.put(2, 0, 9));
        unchanged("put outside", -12, x -> x.put(0, 3, 9));
        unchanged("item of a missing one", -11, x -> x.item(2, 0, 0));
        unchanged("item of another sort", -13, x -> x.item(0, 1, 0));
        unchanged("item outside", -12, x -> x.item(0, 0, 3));
        unchanged("shelf of no such tale", BAD, x -> x.shelf(0, 0, 3));
        unchanged("shelf of no such sheet", BAD, x -> x.shelf(0, 1, 4));
        unchanged("taken of nothing", -11, x -> x.taken(2, 0));
        unchanged("taken of another kind", -13, x -> x.taken(0, 1));
    }

    /** What the text told before its fault is not there either. */
    private static void faultUsesUpTheTapeAlone() {
        String told = "meeting 9;taste 1 is 4;box 1;air 3;friend 1 is 2;crust 9;spice 9;truth at 1;";
        WarmGossip x = Parishes.untaped();
        Parishes.feed(x, told + "!");
        Due.is("its fault", x.parish(), -100 - told.length());
        Due.is("no bytes of it are left", x.many(5), 0);
        Due.holds("all else is as it was", Parishes.all(x).equals(Parishes.all(Parishes.untaped())));
        x = Parishes.untaped();
        Parishes.feed(x, told);
        Due.is("without a fault", x.parish(), 1);
        Due.holds("all is by it alone", !Parishes.all(x).equals(Parishes.all(Parishes.untaped())));
    }

    /** THE TRACE is of the bodies that ran in it. */
    private static void partedBy0ChangesNothing() {
        WarmGossip x = Parishes.some();
        WarmGossip y = Parishes.some();
        x.carry(1, 1);
        y.carry(1, 1);
        Due.is("parted by 0", x.act(0, 2, 9), -15);
        x.act(2, 0, 0);
        y.act(2, 0, 0);
        Due.holds("parted by 0 changes nothing", Parishes.all(x).equals(Parishes.all(y)));
    }

    private static void againOfNothing() {
        WarmGossip x = Parishes.withText("rumour at 3 heat 12;box 4;air 7;");
        WarmGossip y = Parishes.withText("rumour at 3 heat 12;box 4;air 7;");
        x.minutes(1);
        y.minutes(1);
        Due.is("again of nothing", x.again(), NONE);
        Due.holds("again of nothing changes nothing", Parishes.seen(x).equals(Parishes.seen(y)));
    }
}
