/**
 * All promises with numbers: for each number that a call takes, the least and the greatest that is taken, the ones
 * just beyond them, and the ends of the ints; a call that refuses one changes nothing.
 */
public final class RangesTest {
    private static final int BAD = -1, NONE = -3, NO_ROW = -9, OUTSIDE = -12, SIZE_BELOW_0 = -14;
    private static final int MIN = Integer.MIN_VALUE, MAX = Integer.MAX_VALUE;

    private interface Call {
        long of(WarmGossip x, int v);
    }

    private RangesTest() {
    }

    public static void main(String[] args) {
        tapeAndLaws();
        tales();
        talesByHowMany();
        houses();
        minutes();
        triedByTale();
        triedByHouse();
        triedByMinutes();
        oddsAndHope();
        rows();
        sheets();
        minds();
        shelves();
        acts();
        howMany();
        Due.end();
    }

    /** Of Parishes.some(): all from least to greatest are taken, what lies beyond answers the refusal. */
    private static void range(String name, int least, int greatest, int refusal, Call call) {
        taken(name, least, refusal, call);
        taken(name, greatest, refusal, call);
        beyond(name, least, greatest, refusal, call);
    }

    private static void beyond(String name, int least, int greatest, int refusal, Call call) {
        refused(name, MIN, refusal, call);
        refused(name, least - 1, refusal, call);
        refused(name, greatest + 1, refusal, call);
        refused(name, MAX, refusal, call);
    }

    private static void taken(String name, int v, int refusal, Call call) {
        Due.holds(name + " takes " + v, call.of(Parishes.some(), v) != refusal);
    }

    private static void refused(String name, int v, int refusal, Call call) {
        WarmGossip x = Parishes.some();
        Due.is(name + " with " + v, call.of(x, v), refusal);
        Due.holds(name + " with " + v + " changes nothing", Parishes.all(x).equals(Parishes.all(Parishes.some())));
    }

    private static void tapeAndLaws() {
        range("feed's n", 1, 8, BAD, (x, v) -> x.feed(0x2020202020202020L, v));
        range("set's law", 0, 3, BAD, (x, v) -> x.set(v, 2));
        range("AIR", 0, 9, BAD, (x, v) -> x.set(0, v));
        range("SPICE", 0, 9, BAD, (x, v) -> x.set(1, v));
        range("CRUST", 0, 99, BAD, (x, v) -> x.set(2, v));
        range("MEETING", 0, 99, BAD, (x, v) -> x.set(3, v));
        range("lawOf's law", 0, 3, BAD, (x, v) -> x.lawOf(v));
        refused("AIR", 99, BAD, (x, v) -> x.set(0, v));
        refused("SPICE", 99, BAD, (x, v) -> x.set(1, v));
    }

    private static void tales() {
        range("tale's kind", 0, 5, BAD, (x, v) -> x.tale(v, 50, 4));
        range("tale's heat", 0, 99, BAD, (x, v) -> x.tale(1, v, 4));
        range("tale's house", 0, 7, BAD, (x, v) -> x.tale(1, 50, v));
        range("of's tale", 0, 2, BAD, (x, v) -> x.of(v, 0));
        range("of's what", 0, 3, BAD, (x, v) -> x.of(1, v));
        range("does's tale", 0, 2, BAD, (x, v) -> x.does(v, 0));
        range("does's what", 0, 1, BAD, (x, v) -> x.does(1, v));
        range("mind's tale", 0, 2, BAD, (x, v) -> x.mind(v, 1));
        range("mind's kind", 0, 5, BAD, (x, v) -> x.mind(0, v));
        range("warm's tale", 0, 2, BAD, (x, v) -> x.warm(v, 33));
        range("warm's v", 0, 99, BAD, (x, v) -> x.warm(0, v));
        range("carry's tale", 0, 2, BAD, (x, v) -> x.carry(v, 3));
        range("carry's house", 0, 7, BAD, (x, v) -> x.carry(0, v));
    }

    /** Of no TALES none is one; of eight the last is 7. */
    private static void talesByHowMany() {
        for (int many = 0; many <= 8; many++) {
            WarmGossip x = new WarmGossip();
            for (int i = 0; i < many; i++) {
                Due.is("the next one", x.tale(0, 60 + i, i), i);
            }
            x.sheet(0, 0, 1);
            Due.is("the one behind the last", x.of(many, 1), BAD);
            Due.is("its HOUSE", x.where(many, 0), BAD);
            Due.is("minds from it on", x.minds(0, 0, many, 0), BAD);
            Due.is("a shelf for it", x.shelf(0, 0, many), BAD);
            Due.is("the reader of it", x.judge(many), BAD);
            Due.is("none behind it", x.of(8, 1), BAD);
            if (many > 0) {
                Due.is("the last", x.of(many - 1, 1), 59 + many);
                Due.is("its HOUSE", x.where(many - 1, 0), many - 1);
                Due.is("minds from the last on", x.minds(0, 0, many - 1, 0), 0);
                Due.is("a shelf for the last", x.shelf(0, 0, many - 1), 1);
                Due.is("the reader of the last", x.judge(many - 1), 0);
            }
            Due.is("a further one", x.tale(0, 1, 1), many < 8 ? many : -2);
        }
    }

    private static void houses() {
        range("house's house", 0, 7, BAD, (x, v) -> x.house(v, 1, 77));
        range("house's what", 0, 2, BAD, (x, v) -> x.house(0, v, 0));
        refused("house's what", 3, BAD, (x, v) -> x.house(0, v, 1));
        refused("house's what", 5, BAD, (x, v) -> x.house(0, v, 1));
        range("FRIEND", 0, 7, BAD, (x, v) -> x.house(3, 0, v));
        range("TASTE", 0, 99, BAD, (x, v) -> x.house(3, 1, v));
        range("BOX", 0, 1, BAD, (x, v) -> x.house(3, 2, v));
        range("houseOf's house", 0, 7, BAD, (x, v) -> x.houseOf(v, 0));
        range("houseOf's what", 0, 5, BAD, (x, v) -> x.houseOf(3, v));
    }

    private static void minutes() {
        range("minutes' n", 1, 60, BAD, (x, v) -> x.minutes(v));
        range("spread's n", 1, 30, BAD, (x, v) -> x.spread(v));
        range("state's what", 0, 5, BAD, (x, v) -> x.state(v));
    }

    private static void triedByTale() {
        range("where's tale", 0, 2, BAD, (x, v) -> x.where(v, 1));
        range("comes's tale", 0, 2, BAD, (x, v) -> x.comes(v, 1));
        range("cold's tale", 0, 2, BAD, (x, v) -> x.cold(v));
        range("whole's tale", 0, 2, BAD, (x, v) -> x.whole(v));
        range("home's tale", 0, 2, BAD, (x, v) -> x.home(v));
        range("reach's tale", 0, 2, BAD, (x, v) -> x.reach(v, 1));
        range("friendFor's tale", 0, 2, BAD, (x, v) -> x.friendFor(1, v, 1));
        range("boxFor's tale", 0, 2, BAD, (x, v) -> x.boxFor(v, 1));
        range("kindFor's tale", 0, 2, BAD, (x, v) -> x.kindFor(v, 1));
        range("heatFor's tale", 0, 2, BAD, (x, v) -> x.heatFor(v, 1, 1));
        range("keptFor's tale", 0, 2, BAD, (x, v) -> x.keptFor(v, 1, 1));
        range("fits's tale", 0, 2, BAD, (x, v) -> x.fits(0, v, 0));
    }

    private static void triedByHouse() {
        range("comes's house", 0, 7, BAD, (x, v) -> x.comes(0, v));
        range("friendFor's house", 0, 7, BAD, (x, v) -> x.friendFor(v, 0, 1));
        range("heatFor's house", 0, 7, BAD, (x, v) -> x.heatFor(0, v, 1));
    }

    private static void triedByMinutes() {
        range("where's n", 0, 60, BAD, (x, v) -> x.where(0, v));
        range("reach's n", 0, 60, BAD, (x, v) -> x.reach(0, v));
        range("friendFor's n", 1, 30, BAD, (x, v) -> x.friendFor(1, 0, v));
        range("boxFor's n", 1, 30, BAD, (x, v) -> x.boxFor(0, v));
        range("kindFor's n", 1, 30, BAD, (x, v) -> x.kindFor(0, v));
        range("heatFor's n", 0, 30, BAD, (x, v) -> x.heatFor(0, 1, v));
        range("keptFor's n", 1, 20, BAD, (x, v) -> x.keptFor(0, v, 1));
        range("keptFor's v", 0, 99, BAD, (x, v) -> x.keptFor(0, 1, v));
        range("fits's sheet", 0, 3, BAD, (x, v) -> x.fits(v, 0, 0));
        range("fits's what", 0, 1, BAD, (x, v) -> x.fits(0, 0, v));
    }

    private static void oddsAndHope() {
        range("odds's n", 0, 8, BAD, (x, v) -> x.odds(v, 0, 0));
        for (int n = 0; n <= 8; n++) {
            int by = n;
            range("odds's k by " + n, 0, n, BAD, (x, v) -> x.odds(by, v, 1));
        }
        range("odds's part", 0, 1, BAD, (x, v) -> x.odds(4, 2, v));
        range("hope's n", 0, 99, BAD, (x, v) -> x.hope(v, 1));
        range("hope's part", 0, 1, BAD, (x, v) -> x.hope(4, v));
    }

    private static void rows() {
        range("prove's tale", 0, 2, BAD, (x, v) -> x.prove(v, 2));
        range("prove's n", 1, 10, BAD, (x, v) -> x.prove(0, v));
        range("row's i", 0, 3, NO_ROW, (x, v) -> x.row(v, 0));
        range("row's what", 0, 2, NO_ROW, (x, v) -> x.row(1, v));
        range("alterRow's i", 0, 3, NO_ROW, (x, v) -> x.alterRow(v, 0, 5));
        range("alterRow's what", 0, 2, NO_ROW, (x, v) -> x.alterRow(1, v, 5));
        range("judge's tale", 0, 2, BAD, (x, v) -> x.judge(v));
    }

    private static void sheets() {
        range("sheet's sheet", 0, 3, BAD, (x, v) -> x.sheet(v, 2, 3));
        range("sheet's sort", -1, 3, BAD, (x, v) -> x.sheet(0, v, 3));
        taken("sheet's n", 0, BAD, (x, v) -> x.sheet(0, 2, v));
        taken("sheet's n", 40, BAD, (x, v) -> x.sheet(0, 2, v));
        refused("sheet's n", 41, BAD, (x, v) -> x.sheet(0, 2, v));
        refused("sheet's n", MAX, BAD, (x, v) -> x.sheet(0, 2, v));
        refused("sheet's n", -1, SIZE_BELOW_0, (x, v) -> x.sheet(0, 2, v));
        refused("sheet's n", MIN, SIZE_BELOW_0, (x, v) -> x.sheet(0, 2, v));
        range("put's sheet", 0, 3, BAD, (x, v) -> x.put(v, 0, 1));
        range("put's i of three", 0, 2, OUTSIDE, (x, v) -> x.put(0, v, 1));
        range("put's i of two", 0, 1, OUTSIDE, (x, v) -> x.put(1, v, 1));
        refused("put's i of none", 0, OUTSIDE, (x, v) -> x.put(3, v, 1));
        range("item's sheet", 0, 3, BAD, (x, v) -> x.item(v, 0, 0));
        range("item's sort", 0, 3, BAD, (x, v) -> x.item(0, v, 0));
        range("item's i of three", 0, 2, OUTSIDE, (x, v) -> x.item(0, 0, v));
        range("item's i of two", 0, 1, OUTSIDE, (x, v) -> x.item(1, 1, v));
        refused("item's i of none", 0, OUTSIDE, (x, v) -> x.item(3, 3, v));
    }

    private static void minds() {
        range("minds's sheet", 0, 3, BAD, (x, v) -> x.minds(v, 0, 0, 1));
        range("minds's tale", 0, 2, BAD, (x, v) -> x.minds(0, 0, v, 1));
        range("minds's n from 0 on", 0, 3, BAD, (x, v) -> x.minds(0, 0, 0, v));
        range("minds's n from the last on", 0, 1, BAD, (x, v) -> x.minds(0, 0, 2, v));
        range("minds's i for none", 0, 3, OUTSIDE, (x, v) -> x.minds(0, v, 0, 0));
        range("minds's i for one", 0, 2, OUTSIDE, (x, v) -> x.minds(0, v, 0, 1));
        range("minds's i for three", 0, 0, OUTSIDE, (x, v) -> x.minds(0, v, 0, 3));
    }

    private static void shelves() {
        range("shelf's shelf", 0, 3, BAD, (x, v) -> x.shelf(v, 2, 0));
        range("shelf's what", 0, 2, BAD, (x, v) -> x.shelf(2, v, 0));
        range("shelf's tale", 0, 2, BAD, (x, v) -> x.shelf(2, 0, v));
        range("shelf's sheet", 0, 3, BAD, (x, v) -> x.shelf(2, 1, v));
        taken("shelf's n for nothing", MIN, BAD, (x, v) -> x.shelf(0, 2, v));
        taken("shelf's n for nothing", MAX, BAD, (x, v) -> x.shelf(0, 2, v));
        range("taken's shelf", 0, 3, BAD, (x, v) -> x.taken(v, 0));
        range("taken's as of things", 0, 5, BAD, (x, v) -> x.taken(0, v));
        range("taken's as of rows", 10, 13, BAD, (x, v) -> x.taken(1, v));
    }

    /** What act() doesn't take it answers by 0, and THE TRACE is gone, but nothing else. */
    private static void acts() {
        for (int v : new int[] {MIN, -1, 4, MAX}) {
            WarmGossip x = Parishes.some();
            Due.is("act's shelf " + v, x.act(v, 0, 9), 0);
            Due.is("no TRACE then", x.many(6), 0);
            WarmGossip y = Parishes.some();
            Due.is("act's act " + v, y.act(0, v, 9), 0);
            Due.is("no TRACE then", y.many(6), 0);
            WarmGossip z = Parishes.some();
            z.act(2, 0, 9);
            Due.is("no TRACE for nothing", z.many(6), 0);
            String rest = Parishes.all(z);
            Due.holds("act's shelf changes nothing else", rest.equals(Parishes.all(x)));
            Due.holds("act's act changes nothing else", rest.equals(Parishes.all(y)));
        }
        WarmGossip x = Parishes.some();
        for (int v = 0; v <= 3; v++) {
            x.act(0, v, 9);
            Due.holds("act " + v + " is one", x.many(6) > 0);
        }
        x.act(3, 0, 9);
        Due.holds("shelf 3 is one", x.many(6) > 0);
    }

    private static void howMany() {
        range("trace's i", 0, 1, NONE, (x, v) -> x.trace(v));
        range("many's what", 0, 6, BAD, (x, v) -> x.many(v));
    }
}
