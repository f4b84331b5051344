/** Promises 19 to 30: what is tried while nothing changes. */
public final class TriedTest {
    private static final int BAD = -1, NONE = -3;

    private TriedTest() {
    }

    public static void main(String[] args) {
        promise19Where();
        promise20Comes();
        promise21Cold();
        promise22Whole();
        promise23Home();
        promise24Reach();
        promise25FriendFor();
        promise26BoxFor();
        promise27KindFor();
        promise28HeatFor();
        promise29KeptFor();
        promise30Fits();
        promise30FitsRefuses();
        nothingChanges();
        Due.end();
    }

    /** It goes 0, 1, 2, 3, 4 with heat 10, 7, 4, 1, 0, and stays there. */
    private static WarmGossip short4() {
        WarmGossip x = new WarmGossip();
        x.tale(0, 10, 0);
        return x;
    }

    /** Its heat is behind n minutes n, so it goes on to a taste of t in minute t + 1. */
    private static WarmGossip warming() {
        WarmGossip x = new WarmGossip();
        x.tale(1, 0, 0);
        x.set(0, 0);
        return x;
    }

    private static void promise19Where() {
        WarmGossip x = short4();
        for (int n = 0; n <= 60; n++) {
            Due.is("where by " + n, x.where(0, n), Math.min(n, 4));
        }
        Due.is("n -1", x.where(0, -1), BAD);
        Due.is("n 61", x.where(0, 61), BAD);
        Due.is("tale 1", x.where(1, 0), BAD);
        Due.is("tale -1", x.where(-1, 0), BAD);
        x.mind(0, 5);
        x.minutes(1);
        Due.is("the minutes go on while it is tried", x.where(0, 3), 2);
    }

    private static void promise20Comes() {
        WarmGossip x = short4();
        for (int h = 0; h <= 4; h++) {
            Due.is("comes to " + h, x.comes(0, h), h);
        }
        Due.is("never", x.comes(0, 5), NONE);
        x.carry(0, 6);
        x.carry(0, 0);
        Due.is("heard before", x.comes(0, 6), 0);
        Due.is("house 8", x.comes(0, 8), BAD);
        Due.is("house -1", x.comes(0, -1), BAD);
        Due.is("tale 1", x.comes(1, 0), BAD);
        x = warming();
        x.house(1, 1, 59);
        Due.is("in the last minute", x.comes(0, 1), 60);
        x.house(1, 1, 60);
        Due.is("a minute too late", x.comes(0, 1), NONE);
    }

    private static void promise21Cold() {
        WarmGossip x = short4();
        Due.is("cold", x.cold(0), 4);
        x.warm(0, 0);
        Due.is("cold now", x.cold(0), 0);
        x.set(0, 1);
        x.warm(0, 60);
        Due.is("in the last minute", x.cold(0), 60);
        x.warm(0, 61);
        Due.is("a minute too late", x.cold(0), NONE);
        Due.is("tale 1", x.cold(1), BAD);
        Due.is("tale -1", x.cold(-1), BAD);
    }

    private static void promise22Whole() {
        WarmGossip x = short4();
        Due.is("not all", x.whole(0), NONE);
        x.set(0, 0);
        Due.is("all", x.whole(0), 7);
        for (int h = 0; h < 8; h++) {
            x.carry(0, h);
        }
        Due.is("all now", x.whole(0), 0);
        x = warming();
        x.house(7, 1, 59);
        Due.is("in the last minute", x.whole(0), 60);
        x.house(7, 1, 60);
        Due.is("a minute too late", x.whole(0), NONE);
        Due.is("tale 1", x.whole(1), BAD);
        Due.is("tale -1", x.whole(-1), BAD);
    }

    private static void promise23Home() {
        WarmGossip x = short4();
        Due.is("never", x.home(0), NONE);
        x.set(0, 0);
        Due.is("around", x.home(0), 8);
        x.house(0, 0, 0);
        Due.is("to itself", x.home(0), 1);
        x.set(0, 9);
        x.warm(0, 9);
        Due.is("cold there", x.home(0), NONE);
        x.warm(0, 10);
        Due.is("warm there", x.home(0), 1);
        x = warming();
        x.house(1, 0, 0);
        x.house(1, 1, 0);
        x.house(0, 1, 59);
        Due.is("in the last minute", x.home(0), 60);
        x.house(0, 1, 60);
        Due.is("a minute too late", x.home(0), NONE);
        Due.is("tale 1", x.home(1), BAD);
        Due.is("tale -1", x.home(-1), BAD);
    }

    private static void promise24Reach() {
        WarmGossip x = short4();
        for (int n = 0; n <= 60; n++) {
            Due.is("reach by " + n, x.reach(0, n), Math.min(n, 4) + 1);
        }
        x.carry(0, 4);
        x.carry(0, 0);
        Due.is("with one that has heard it", x.reach(0, 2), 4);
        Due.is("n -1", x.reach(0, -1), BAD);
        Due.is("n 61", x.reach(0, 61), BAD);
        Due.is("tale 1", x.reach(1, 0), BAD);
    }

    private static void promise25FriendFor() {
        WarmGossip x = short4();
        Due.is("of several the least", x.friendFor(0, 0, 4), 1);
        x.house(1, 1, 99);
        Due.is("but one that takes it", x.friendFor(0, 0, 4), 2);
        Due.is("where it never is", x.friendFor(6, 0, 4), 0);
        x.house(1, 1, 1);
        x.house(5, 0, 5);
        x.house(4, 0, 4);
        x.set(0, 0);
        Due.is("the farthest", x.friendFor(4, 0, 30), 6);
        Due.is("by 1", x.friendFor(0, 0, 1), 1);
        Due.is("n 0", x.friendFor(0, 0, 0), BAD);
        Due.is("n 31", x.friendFor(0, 0, 31), BAD);
        Due.is("house 8", x.friendFor(8, 0, 1), BAD);
        Due.is("house -1", x.friendFor(-1, 0, 1), BAD);
        Due.is("tale 1", x.friendFor(0, 1, 1), BAD);
    }

    private static void promise26BoxFor() {
        WarmGossip x = short4();
        Due.is("of several the least", x.boxFor(0, 2), 1);
        x.house(1, 2, 1);
        Due.is("without a box", x.boxFor(0, 2), 2);
        x.house(2, 2, 1);
        Due.is("no other helps", x.boxFor(0, 2), NONE);
        x.carry(0, 7);
        Due.is("at 0, by 1", x.boxFor(0, 1), 0);
        x.house(0, 2, 1);
        x.carry(0, 6);
        Due.is("at 7, by 1", x.boxFor(0, 1), 7);
        x = short4();
        Due.is("it is cold with each", x.boxFor(0, 6), NONE);
        x = warming();
        x.warm(0, 20);
        x.mind(0, 3);
        Due.is("a box would hold it down", x.boxFor(0, 3), NONE);
        x = new WarmGossip();
        x.tale(4, 60, 0);
        Due.is("the greatest", x.boxFor(0, 3), 5);
        Due.is("n 0", x.boxFor(0, 0), BAD);
        Due.is("n 31", x.boxFor(0, 31), BAD);
        Due.is("n 30", x.boxFor(0, 30), NONE);
        Due.is("tale 1", x.boxFor(1, 1), BAD);
    }

    private static void promise27KindFor() {
        WarmGossip x = new WarmGossip();
        x.tale(5, 50, 0);
        Due.is("of several the least", x.kindFor(0, 3), 2);
        x.warm(0, 1);
        Due.is("the farthest", x.kindFor(0, 3), 3);
        x.warm(0, 0);
        Due.is("all the same", x.kindFor(0, 3), 0);
        x.warm(0, 9);
        Due.is("by 1", x.kindFor(0, 1), 2);
        Due.is("n 0", x.kindFor(0, 0), BAD);
        Due.is("n 31", x.kindFor(0, 31), BAD);
        Due.is("tale 1", x.kindFor(1, 1), BAD);
        Due.is("tale -1", x.kindFor(-1, 1), BAD);
    }

    private static void promise28HeatFor() {
        WarmGossip x = short4();
        Due.is("the least heat", x.heatFor(0, 4, 4), 10);
        Due.is("with more time", x.heatFor(0, 4, 30), 10);
        Due.is("with less time", x.heatFor(0, 4, 3), NONE);
        Due.is("where it is", x.heatFor(0, 0, 0), 0);
        Due.is("not in no time", x.heatFor(0, 1, 0), NONE);
        x.house(4, 1, 90);
        Due.is("the most heat", x.heatFor(0, 4, 4), 99);
        x.house(4, 1, 91);
        Due.is("too much heat", x.heatFor(0, 4, 4), NONE);
        Due.is("n -1", x.heatFor(0, 4, -1), BAD);
        Due.is("n 31", x.heatFor(0, 4, 31), BAD);
        Due.is("house 8", x.heatFor(0, 8, 1), BAD);
        Due.is("house -1", x.heatFor(0, -1, 1), BAD);
        Due.is("tale 1", x.heatFor(1, 0, 1), BAD);
    }

    private static void promise29KeptFor() {
        WarmGossip x = short4();
        x.house(1, 2, 1);
        Due.is("none needed", x.keptFor(0, 2, 4), 0);
        Due.is("one, of several the least", x.keptFor(0, 2, 5), 2);
        Due.is("one still", x.keptFor(0, 2, 6), 2);
        Due.is("two", x.keptFor(0, 2, 7), 6);
        Due.is("two still", x.keptFor(0, 2, 8), 6);
        Due.is("by no set", x.keptFor(0, 2, 9), NONE);
        Due.is("v 0 by 20", x.keptFor(0, 20, 0), 0);
        Due.is("v 99", x.keptFor(0, 1, 99), NONE);
        x.warm(0, 40);
        x.carry(0, 6);
        Due.is("fewest before least", x.keptFor(0, 9, 17), 128);
        Due.is("all eight", x.keptFor(0, 8, 32), 255);
        Due.is("v -1", x.keptFor(0, 1, -1), BAD);
        Due.is("v 100", x.keptFor(0, 1, 100), BAD);
        Due.is("n 0", x.keptFor(0, 0, 0), BAD);
        Due.is("n 21", x.keptFor(0, 21, 0), BAD);
        Due.is("tale 1", x.keptFor(1, 1, 0), BAD);
    }

    private static void promise30Fits() {
        WarmGossip x = short4();
        x.sheet(0, 0, 0);
        Due.is("no numbers: all", x.fits(0, 0, 0), 100);
        Due.is("no numbers: the least", x.fits(0, 0, 1), 0);
        x.sheet(0, 0, 2);
        x.put(0, 0, 255);
        x.put(0, 1, 2);
        Due.is("at 2 behind 2", x.fits(0, 0, 0), 96);
        Due.is("the least", x.fits(0, 0, 1), 4);
        x.put(0, 1, 1);
        Due.is("at 1 behind 2", x.fits(0, 0, 0), 3);
        Due.is("the least then", x.fits(0, 0, 1), 1);
        x.put(0, 0, 0);
        x.put(0, 1, 0);
        Due.is("it stays", x.fits(0, 0, 0), 1);
        Due.is("with no heat", x.fits(0, 0, 1), 0);
        x.put(0, 1, 8);
        Due.is("no such house", x.fits(0, 0, 0), 0);
        Due.is("none fits", x.fits(0, 0, 1), NONE);
        for (int sort = 1; sort <= 3; sort++) {
            x.sheet(sort, sort, 1);
            x.put(sort, 0, 255);
            Due.is("255 is no house", x.fits(sort, 0, 0), 0);
            x.put(sort, 0, -1);
            Due.is("-1 is any", x.fits(sort, 0, 0), 100);
            x.put(sort, 0, -2);
            Due.is("-2 is none", x.fits(sort, 0, 0), 0);
            x.put(sort, 0, 1);
            Due.is("1", x.fits(sort, 0, 0), 99);
        }
    }

    private static void promise30FitsRefuses() {
        WarmGossip x = short4();
        Due.is("missing", x.fits(0, 0, 0), -11);
        Due.is("missing, what 1", x.fits(0, 0, 1), -11);
        Due.is("missing, and no such tale", x.fits(0, 1, 0), BAD);
        Due.is("missing, and no such what", x.fits(0, 0, 2), BAD);
        Due.is("sheet 4", x.fits(4, 0, 0), BAD);
        Due.is("sheet -1", x.fits(-1, 0, 0), BAD);
        x.sheet(0, 3, 40);
        for (int i = 0; i < 40; i++) {
            x.put(0, i, -1);
        }
        x.put(0, 39, 4);
        Due.is("forty", x.fits(0, 0, 1), 10);
        Due.is("what -1", x.fits(0, 0, -1), BAD);
    }

    private static void nothingChanges() {
        WarmGossip x = Parishes.withText("whisper at 2 heat 70;truth at 5;box 3;friend 4 is 1;taste 6 is 20;");
        x.minutes(2);
        x.sheet(0, 0, 3);
        String before = Parishes.seen(x);
        for (int i = 0; i < 2; i++) {
            x.where(i, 60);
            x.comes(i, 7);
            x.cold(i);
            x.whole(i);
            x.home(i);
            x.reach(i, 60);
            x.friendFor(3, i, 30);
            x.boxFor(i, 30);
            x.kindFor(i, 30);
            x.heatFor(i, 7, 30);
            x.keptFor(i, 20, 99);
            x.fits(0, i, 0);
            x.spread(30);
            x.odds(3, 1, 0);
            x.hope(5, 1);
            x.judge(i);
        }
        Due.holds("what is tried changes nothing", before.equals(Parishes.seen(x)));
    }
}
