import java.math.BigInteger;

/** Section 2 of the document, what is TRIED, but for THE TAPE: each sentence that names an edge, by that sentence. */
public final class EdgesOfTriesTest {
    private static final int NONE = -3;
    private static final int MIN = Integer.MIN_VALUE, MAX = Integer.MAX_VALUE;
    private static final int TALE = 0, NEWS = 1, SCANDAL = 3, WHISPER = 4, TRUTH = 5;

    private EdgesOfTriesTest() {
    }

    public static void main(String[] args) {
        where();
        comes();
        cold();
        whole();
        home();
        reach();
        friendFor();
        boxFor();
        kindFor();
        kindForTruth();
        heatFor();
        keptFor();
        keptForLeast();
        loop();
        fits();
        fitsOfForty();
        oddsOfNone();
        oddsOfAll();
        hope();
        drawsWrap();
        drawsByHowMany();
        drawsByMeeting();
        spreadOfNone();
        spreadFromHowAllIsNow();
        Due.end();
    }

    private static WarmGossip one(int kind, int heat, int house) {
        WarmGossip x = new WarmGossip();
        x.tale(kind, heat, house);
        return x;
    }

    /** A tale that doesn't cool. */
    private static WarmGossip lasting(int heat) {
        WarmGossip x = one(TALE, heat, 0);
        x.set(0, 0);
        return x;
    }

    /** News AT 0 whose HEAT is n behind n MINUTES, so it goes on to a TASTE of t in MINUTE t + 1. */
    private static WarmGossip warming() {
        WarmGossip x = one(NEWS, 0, 0);
        x.set(0, 0);
        return x;
    }

    /** "its HOUSE behind n MINUTES": none, the most. */
    private static void where() {
        WarmGossip x = lasting(50);
        Due.is("behind none", x.where(0, 0), 0);
        Due.is("behind one", x.where(0, 1), 1);
        Due.is("behind seven", x.where(0, 7), 7);
        Due.is("behind eight", x.where(0, 8), 0);
        Due.is("behind 59", x.where(0, 59), 3);
        Due.is("behind 60", x.where(0, 60), 4);
        x = warming();
        x.house(1, 1, 59);
        x.house(1, 0, 1);
        Due.is("not yet", x.where(0, 59), 0);
        Due.is("in the last", x.where(0, 60), 1);
        x = one(TRUTH, 50, 0);
        x.minutes(2);
        Due.is("from the MINUTE that it is now", x.where(0, 1), 1);
        Due.is("from the MINUTE that it is now", x.where(0, 2), 2);
    }

    /** "behind the fewest MINUTES (0 to 60) that has HEARD it first" */
    private static void comes() {
        WarmGossip x = lasting(50);
        for (int h = 0; h < 8; h++) {
            Due.is("comes to " + h, x.comes(0, h), h);
        }
        x.carry(0, 5);
        x.carry(0, 0);
        Due.is("has HEARD it now", x.comes(0, 5), 0);
        x = warming();
        x.house(1, 1, 58);
        Due.is("behind 59", x.comes(0, 1), 59);
        x.house(1, 1, 59);
        Due.is("behind 60", x.comes(0, 1), 60);
        Due.is("not by then", x.comes(0, 2), NONE);
        x.house(1, 1, 60);
        Due.is("behind 61", x.comes(0, 1), NONE);
        x = one(WHISPER, 50, 0);
        Due.is("where it goes through", x.comes(0, 1), 1);
        Due.is("where it goes to", x.comes(0, 2), 1);
    }

    /** "behind the fewest (0 to 60) HEAT of one is 0 first" */
    private static void cold() {
        WarmGossip x = warming();
        Due.is("now, though it is warm then", x.cold(0), 0);
        x = one(TALE, 60, 0);
        x.set(0, 1);
        Due.is("behind 60", x.cold(0), 60);
        x.warm(0, 59);
        Due.is("behind 59", x.cold(0), 59);
        x.warm(0, 61);
        Due.is("behind 61", x.cold(0), NONE);
        x.warm(0, 1);
        Due.is("behind one", x.cold(0), 1);
        x.set(0, 0);
        Due.is("never", x.cold(0), NONE);
        x = one(NEWS, 0, 3);
        x.warm(0, 8);
        x.set(0, 9);
        Due.is("held to 0", x.cold(0), 1);
    }

    /** "behind the fewest (0 to 60) all HOUSES have HEARD one first" */
    private static void whole() {
        WarmGossip x = lasting(50);
        for (int h = 7; h >= 2; h--) {
            x.carry(0, h);
        }
        x.carry(0, 0);
        Due.is("all but one", x.whole(0), 1);
        x.carry(0, 1);
        Due.is("all now", x.whole(0), 0);
        x = warming();
        for (int h = 1; h < 7; h++) {
            x.carry(0, h);
        }
        x.house(7, 1, 59);
        Due.is("behind 60", x.whole(0), 60);
        x.house(7, 1, 60);
        Due.is("behind 61", x.whole(0), NONE);
        x.house(7, 1, 0);
        x.house(6, 0, 0);
        Due.is("never", x.whole(0), NONE);
    }

    /** "behind the fewest (1 to 60) it is AT the HOUSE AT which it is now, with HEAT above 0, first" */
    private static void home() {
        WarmGossip x = lasting(50);
        Due.is("not behind none", x.home(0), 8);
        x.house(0, 1, 99);
        Due.is("never", x.home(0), NONE);
        x = lasting(1);
        x.house(0, 0, 0);
        Due.is("with HEAT 1, behind one", x.home(0), 1);
        x.warm(0, 0);
        Due.is("with HEAT 0", x.home(0), NONE);
        x = one(TALE, 4, 5);
        x.house(5, 0, 5);
        Due.is("with HEAT 1 then", x.home(0), 1);
        x.warm(0, 3);
        Due.is("with HEAT 0 then", x.home(0), NONE);
        x = warming();
        x.house(1, 1, 99);
        Due.is("it stays, warm behind one", x.home(0), 1);
        x = one(TRUTH, 50, 3);
        x.minutes(1);
        Due.is("it stays in MINUTE 1", x.home(0), 1);
        x = warming();
        x.house(1, 0, 0);
        x.house(1, 1, 0);
        x.house(0, 1, 59);
        Due.is("behind 60", x.home(0), 60);
        x.house(0, 1, 60);
        Due.is("behind 61", x.home(0), NONE);
        x = one(SCANDAL, 50, 0);
        x.house(1, 0, 0);
        Due.is("there and back in one", x.home(0), 1);
        x = new WarmGossip();
        x.tale(TALE, 50, 0);
        x.set(0, 0);
        x.minutes(3);
        Due.is("where it is now, not where it came", x.home(0), 8);
    }

    /** "how many HOUSES have HEARD it behind n MINUTES" */
    private static void reach() {
        WarmGossip x = lasting(50);
        Due.is("behind none", x.reach(0, 0), 1);
        Due.is("behind one", x.reach(0, 1), 2);
        Due.is("behind six", x.reach(0, 6), 7);
        Due.is("behind seven", x.reach(0, 7), 8);
        Due.is("behind 60", x.reach(0, 60), 8);
        x.carry(0, 4);
        Due.is("of two behind none", x.reach(0, 0), 2);
        x = warming();
        x.house(1, 1, 59);
        Due.is("behind 59", x.reach(0, 59), 1);
        Due.is("behind 60", x.reach(0, 60), 2);
    }

    /** "the HOUSE which, were it its FRIEND now, makes REACH of that one by n greatest; of several the least" */
    private static void friendFor() {
        WarmGossip x = lasting(50);
        Due.is("all but itself", x.friendFor(0, 0, 1), 1);
        for (int h = 1; h < 7; h++) {
            x.carry(0, h);
        }
        x.carry(0, 0);
        Due.is("the last", x.friendFor(0, 0, 1), 7);
        Due.is("of a HOUSE where it isn't by then", x.friendFor(4, 0, 1), 0);
        x.carry(0, 7);
        x.carry(0, 0);
        Due.is("of all", x.friendFor(0, 0, 1), 0);
        x = lasting(50);
        for (int h = 0; h < 8; h++) {
            x.house(h, 1, 51);
        }
        Due.is("with none", x.friendFor(5, 0, 30), 0);
        Due.is("its FRIEND is what it was", x.houseOf(5, 0), 6);
        x = warming();
        for (int h = 1; h < 8; h++) {
            x.house(h, 1, 29 + h);
        }
        Due.is("in the last of 30", x.friendFor(0, 0, 30), 0);
        x.house(6, 1, 29);
        Due.is("in the last of 30", x.friendFor(0, 0, 30), 6);
        Due.is("not in the last of 29", x.friendFor(0, 0, 29), 0);
    }

    /** "the HOUSE without a BOX .. greatest, greater than as it is; of several the least" */
    private static void boxFor() {
        WarmGossip x = one(TALE, 50, 0);
        Due.is("of several the least", x.boxFor(0, 7), 1);
        Due.is("where it is twice", x.boxFor(0, 9), 1);
        x.house(1, 2, 1);
        Due.is("without a BOX", x.boxFor(0, 7), 2);
        for (int h = 0; h < 8; h++) {
            x.house(h, 2, h == 7 ? 0 : 1);
        }
        Due.is("the only one", x.boxFor(0, 7), 7);
        Due.is("where it isn't by then", x.boxFor(0, 6), NONE);
        x.house(7, 2, 1);
        Due.is("all have one", x.boxFor(0, 7), NONE);
        x = one(TALE, 50, 0);
        x.set(0, 0);
        Due.is("no greater than as it is", x.boxFor(0, 7), NONE);
        x.set(0, 1);
        Due.is("greater by one", x.boxFor(0, 1), 1);
        x = one(NEWS, 50, 0);
        x.set(0, 0);
        Due.is("less than as it is", x.boxFor(0, 7), NONE);
        x = one(TALE, 3, 0);
        Due.is("cold as it is, not with a BOX", x.boxFor(0, 1), 1);
        x.warm(0, 1);
        Due.is("cold with each", x.boxFor(0, 1), NONE);
    }

    /** "the KIND as one of which REACH of it by n is greatest; of several the least" */
    private static void kindFor() {
        WarmGossip x = one(TRUTH, 0, 0);
        Due.is("all reach as far", x.kindFor(0, 30), 0);
        x.warm(0, 50);
        Due.is("three by one", x.kindFor(0, 1), 2);
        x.house(2, 1, 99);
        Due.is("all reach as far", x.kindFor(0, 1), 0);
        x = one(TRUTH, 4, 0);
        for (int h = 0; h < 8; h++) {
            x.house(h, 1, 4);
        }
        x.set(1, 0);
        x.set(0, 1);
        Due.is("scandal alone goes on", x.kindFor(0, 3), 3);
        Due.is("its KIND is what it was", x.of(0, 0), TRUTH);
    }

    /** The last KIND is the greatest: it alone is as warm as it was in MINUTE 3. */
    private static void kindForTruth() {
        WarmGossip x = one(TALE, 50, 0);
        for (int h = 0; h < 8; h++) {
            x.house(h, 1, 50);
        }
        x.set(0, 9);
        x.set(1, 0);
        Due.is("by 3", x.kindFor(0, 3), 2);
        Due.is("by 30", x.kindFor(0, 30), 5);
    }

    /** "the least HEAT (0 to 99) with which it COMES to that within n MINUTES" */
    private static void heatFor() {
        WarmGossip x = lasting(50);
        Due.is("where it is, within none", x.heatFor(0, 0, 0), 0);
        Due.is("another, within none", x.heatFor(0, 1, 0), NONE);
        Due.is("another, within one", x.heatFor(0, 1, 1), 1);
        Due.is("in the last", x.heatFor(0, 7, 7), 1);
        Due.is("a minute too late", x.heatFor(0, 7, 6), NONE);
        x.house(1, 1, 0);
        Due.is("with none", x.heatFor(0, 1, 1), 0);
        x.house(1, 1, 99);
        Due.is("with the most", x.heatFor(0, 1, 1), 99);
        Due.is("within 30", x.heatFor(0, 1, 30), 99);
        x.set(0, 1);
        x.house(2, 1, 99);
        Due.is("with more than there is", x.heatFor(0, 2, 30), NONE);
        x = warming();
        x.house(1, 1, 29);
        x.warm(0, 77);
        Due.is("within 30 with none", x.heatFor(0, 1, 30), 0);
        Due.is("within 29 with one", x.heatFor(0, 1, 29), 1);
    }

    /** "the set of fewest HOUSES such that, if there are BOXES AT these now and AT no others, .. v or more" */
    private static void keptFor() {
        WarmGossip x = one(TALE, 30, 0);
        Due.is("no BOX, just", x.keptFor(0, 3, 21), 0);
        Due.is("one BOX, of several the least", x.keptFor(0, 3, 22), 2);
        Due.is("one BOX, just", x.keptFor(0, 3, 23), 2);
        Due.is("two", x.keptFor(0, 3, 24), 6);
        Due.is("three, just", x.keptFor(0, 3, 27), 14);
        Due.is("by no set", x.keptFor(0, 3, 28), NONE);
        Due.is("v 0", x.keptFor(0, 20, 0), 0);
        for (int h = 0; h < 8; h++) {
            x.house(h, 2, 1);
        }
        Due.is("AT no others", x.keptFor(0, 3, 21), 0);
        Due.is("AT no others", x.keptFor(0, 3, 22), 2);
        x = one(NEWS, 60, 0);
        x.set(0, 0);
        for (int h = 0; h < 8; h++) {
            x.house(h, 2, 1);
        }
        Due.is("warmer with none", x.keptFor(0, 20, 80), 0);
        Due.is("by no set", x.keptFor(0, 20, 81), NONE);
        x.warm(0, 80);
        Due.is("v 99", x.keptFor(0, 20, 99), 0);
        x = one(TALE, 40, 0);
        Due.is("all eight", x.keptFor(0, 8, 32), 255);
        Due.is("seven of eight, the least", x.keptFor(0, 8, 30), 127);
    }

    /** "of fewest ..; of several the least": one that is great is before two that are less. */
    private static void keptForLeast() {
        WarmGossip x = one(TALE, 30, 5);
        x.house(5, 0, 7);
        x.house(7, 0, 7);
        Due.is("one that is great", x.keptFor(0, 4, 26), 128);
        x.house(7, 0, 1);
        x.house(1, 0, 3);
        x.house(3, 0, 3);
        Due.is("two of three, the least", x.keptFor(0, 3, 25), 10);
        Due.is("where it was counts for nothing", x.keptFor(0, 1, 29), 128);
    }

    /** "LOOP of a HOUSE: that one, its FRIEND, the FRIEND of that, and so on." */
    private static void loop() {
        WarmGossip x = new WarmGossip();
        for (int h = 0; h < 8; h++) {
            Due.is("of all", x.houseOf(h, 4), 255);
        }
        x.house(7, 0, 7);
        for (int h = 0; h < 8; h++) {
            Due.is("to the last from " + h, x.houseOf(h, 4), 256 - (1 << h));
        }
        x.house(7, 0, 6);
        Due.is("of two", x.houseOf(7, 4), 192);
        Due.is("of two, behind six", x.houseOf(0, 4), 255);
    }

    private static void row(WarmGossip x, int... numbers) {
        x.sheet(0, 2, numbers.length);
        for (int i = 0; i < numbers.length; i++) {
            x.put(0, i, numbers[i]);
        }
    }

    private static void fit(String name, WarmGossip x, int many, int least) {
        Due.is(name + ": how many", x.fits(0, 0, 0), many);
        Due.is(name + ": the least", x.fits(0, 0, 1), least);
    }

    /** "those numbers (0 to 99) that might be its HEAT now so that .." */
    private static void fits() {
        WarmGossip x = lasting(50);
        row(x);
        fit("no numbers", x, 100, 0);
        row(x, -1, -1);
        fit("any", x, 100, 0);
        row(x, 0);
        fit("0 alone", x, 1, 0);
        x.house(1, 1, 99);
        row(x, 1);
        fit("99 alone", x, 1, 99);
        row(x, 0);
        fit("all but 99", x, 99, 0);
        row(x, 2);
        fit("none", x, 0, NONE);
        row(x, 8);
        fit("no HOUSE", x, 0, NONE);
        row(x, -2);
        fit("no HOUSE below 0", x, 0, NONE);
        row(x, MIN);
        fit("no HOUSE far below 0", x, 0, NONE);
        row(x, -1, 2);
        fit("any, then one", x, 1, 99);
        row(x, 1, -1, 3);
        fit("one, then any, then one", x, 1, 99);
        row(x, 1, -1, 4);
        fit("one that it isn't AT", x, 0, NONE);
    }

    /** "SHEETS .. 40 at most": a row of forty, of longs. */
    private static void fitsOfForty() {
        WarmGossip x = lasting(50);
        x.sheet(3, 3, 40);
        for (int i = 0; i < 40; i++) {
            x.put(3, i, (i + 1) % 8);
        }
        Due.is("all forty", x.fits(3, 0, 0), 99);
        x.put(3, 39, 1);
        Due.is("but the last", x.fits(3, 0, 0), 0);
        x.put(3, 39, -1);
        Due.is("the last is any", x.fits(3, 0, 0), 99);
    }

    private static void odds(WarmGossip x, int n, int k, long above, long below) {
        Due.is("odds by " + n + ", " + k + ", above", x.odds(n, k, 0), above);
        Due.is("odds by " + n + ", " + k + ", below", x.odds(n, k, 1), below);
    }

    /** "(0 is 0 by 1)", and MEETING 0. */
    private static void oddsOfNone() {
        WarmGossip x = new WarmGossip();
        odds(x, 0, 0, 1, 1);
        odds(x, 1, 0, 4, 5);
        odds(x, 1, 1, 1, 5);
        x.set(3, 0);
        odds(x, 0, 0, 1, 1);
        odds(x, 1, 0, 1, 1);
        odds(x, 1, 1, 0, 1);
        odds(x, 8, 0, 1, 1);
        odds(x, 8, 1, 0, 1);
        odds(x, 8, 8, 0, 1);
    }

    /** n 8, MEETING 99. */
    private static void oddsOfAll() {
        WarmGossip x = new WarmGossip();
        x.set(3, 99);
        odds(x, 8, 8, 9227446944279201L, 10000000000000000L);
        odds(x, 8, 7, 93206534790699L, 1250000000000000L);
        odds(x, 8, 0, 1, 10000000000000000L);
        x.set(3, 20);
        odds(x, 8, 8, 1, 390625);
        odds(x, 8, 0, 65536, 390625);
        x.set(3, 50);
        odds(x, 1, 0, 1, 2);
        odds(x, 2, 1, 1, 2);
        odds(x, 8, 8, 1, 256);
        x.set(3, 1);
        odds(x, 1, 1, 1, 100);
        odds(x, 1, 0, 99, 100);
    }

    private static void hope(WarmGossip x, int n, long above, long below) {
        Due.is("hope by " + n + ", above", x.hope(n, 0), above);
        Due.is("hope by " + n + ", below", x.hope(n, 1), below);
    }

    /** "how many do on average", n 0 to 99. */
    private static void hope() {
        WarmGossip x = new WarmGossip();
        hope(x, 0, 0, 1);
        hope(x, 1, 1, 5);
        hope(x, 5, 1, 1);
        hope(x, 99, 99, 5);
        x.set(3, 0);
        hope(x, 0, 0, 1);
        hope(x, 99, 0, 1);
        x.set(3, 99);
        hope(x, 0, 0, 1);
        hope(x, 1, 99, 100);
        hope(x, 50, 99, 2);
        hope(x, 99, 9801, 100);
    }

    /** z becomes this; numbers of any size, cut to 32 bits. */
    private static int next(int z) {
        return BigInteger.valueOf(z).multiply(BigInteger.valueOf(1103515245)).add(BigInteger.valueOf(12345)).intValue();
    }

    /** The upper half of z, without its sign. */
    private static int drawn(int z) {
        return BigInteger.valueOf(z).mod(BigInteger.ONE.shiftLeft(32)).shiftRight(16).intValue();
    }

    private static void minuteByDraws(int seed, int tales, int meeting) {
        WarmGossip x = new WarmGossip();
        for (int i = 0; i < tales; i++) {
            x.tale(TALE, 50, i);
        }
        for (int h = 0; h < 8; h++) {
            x.house(h, 0, h);
        }
        x.set(3, meeting);
        x.seed(seed);
        int z = next(seed);
        int one = drawn(z) % tales;
        z = next(z);
        boolean meets = drawn(z) % 100 < meeting;
        int house = one;
        if (meets) {
            z = next(z);
            house = drawn(z) % 8;
        }
        String name = "z " + seed + ", " + tales + " tales, MEETING " + meeting;
        Due.is(name + ": heat", x.minute(), 47 * tales);
        for (int i = 0; i < tales; i++) {
            Due.is(name + ": AT", x.of(i, 2), i == one ? house : i);
            Due.is(name + ": HEARD", x.of(i, 3), i == one ? 1 << house | 1 << one : 1 << i);
        }
        Due.is(name + ": z", x.seed(0), z);
        Due.is(name + ": MINUTE", x.state(0), 1);
    }

    /** "z (an int; 1 at first) becomes z * 1103515245 + 12345; z >>> 16 is drawn" */
    private static void drawsWrap() {
        int[] seeds = {0, 1, -1, 2, MAX, MIN, MAX - 1, MIN + 1, 1103515245, -1103515245, 0xffff, 0x10000, -0x10000};
        for (int seed : seeds) {
            minuteByDraws(seed, 5, 99);
            minuteByDraws(seed, 3, 50);
        }
        Due.is("z at first", new WarmGossip().seed(0), 1);
    }

    /** "if there are TALES, a draw: the one that it leaves by how many there are": none, one, eight. */
    private static void drawsByHowMany() {
        WarmGossip x = new WarmGossip();
        x.seed(77);
        Due.is("no TALES", x.minute(), 0);
        Due.is("no draw", x.seed(1), 77);
        Due.is("a MINUTE", x.state(0), 1);
        for (int tales = 1; tales <= 8; tales++) {
            for (int seed = -3; seed <= 12; seed++) {
                minuteByDraws(seed, tales, 70);
            }
        }
    }

    /** "if what that leaves by 100 is below MEETING": just that, one more, 0, 99. */
    private static void drawsByMeeting() {
        for (int seed = 1; seed <= 12; seed++) {
            int left = drawn(next(next(seed))) % 100;
            minuteByDraws(seed, 4, left);
            minuteByDraws(seed, 4, Math.min(99, left + 1));
            minuteByDraws(seed, 4, 0);
            minuteByDraws(seed, 4, 99);
        }
    }

    /** "in how many of n MINUTES BY DRAWS": without TALES, and when all have HEARD all, in none. */
    private static void spreadOfNone() {
        WarmGossip x = new WarmGossip();
        x.set(3, 99);
        Due.is("no TALES", x.spread(1), 0);
        Due.is("no TALES", x.spread(30), 0);
        x.tale(TALE, 50, 0);
        for (int h = 0; h < 8; h++) {
            x.carry(0, h);
        }
        Due.is("all have HEARD all", x.spread(30), 0);
        Due.is("z is as it was", x.seed(1), 1);
    }

    /** ".. each tried from how all is now (z alone goes on), .. (nothing changes, z neither)" */
    private static void spreadFromHowAllIsNow() {
        for (int n = 1; n <= 30; n++) {
            WarmGossip x = one(TALE, 50, 3);
            x.house(3, 0, 3);
            for (int h = 0; h < 8; h++) {
                x.house(h, 0, 3);
            }
            x.set(3, 60);
            x.seed(-n);
            int z = -n;
            int more = 0;
            for (int i = 0; i < n; i++) {
                z = next(next(z));
                if (drawn(z) % 100 < 60) {
                    z = next(z);
                    more += drawn(z) % 8 == 3 ? 0 : 1;
                }
            }
            Due.is("spread by " + n, x.spread(n), more);
            Due.is("the same again", x.spread(n), more);
            Due.is("HEARD as it was", x.of(0, 3), 8);
            Due.is("MINUTE as it was", x.state(0), 0);
            Due.is("z as it was", x.seed(0), -n);
        }
    }
}
