/** Promises 1 and 4 to 18: how all is, what changes it, and the minutes. */
public final class LawsAndTalesTest {
    private static final int BAD = -1, FULL = -2, NONE = -3;
    private static final int MIN = Integer.MIN_VALUE, MAX = Integer.MAX_VALUE;

    private LawsAndTalesTest() {
    }

    public static void main(String[] args) {
        constants();
        promise1New();
        promise4Set();
        promise5LawOf();
        promise6Tale();
        promise7Of();
        promise8Cools();
        promise8Doors();
        promise9Mind();
        promise10Warm();
        promise11Carry();
        promise12House();
        promise13HouseOf();
        promise14HandsOn();
        promise14Cools();
        promise14Boxes();
        promise15Seed();
        promise16Minute();
        promise17Spread();
        promise17SpreadBeyondAMinute();
        promise17SpreadAddsUp();
        promise18State();
        Due.end();
    }

    private static void constants() {
        Due.is("BAD", WarmGossip.BAD, -1);
        Due.is("FULL", WarmGossip.FULL, -2);
        Due.is("NONE", WarmGossip.NONE, -3);
    }

    private static void promise1New() {
        WarmGossip x = new WarmGossip();
        for (int what = 0; what <= 6; what++) {
            Due.is("new many " + what, x.many(what), 0);
        }
        for (int what = 0; what <= 5; what++) {
            Due.is("new state " + what, x.state(what), 0);
        }
        for (int h = 0; h < 8; h++) {
            Due.is("new friend of " + h, x.houseOf(h, 0), (h + 1) % 8);
            Due.is("new taste of " + h, x.houseOf(h, 1), 1);
            Due.is("new box of " + h, x.houseOf(h, 2), 0);
        }
        for (int i = 0; i < 4; i++) {
            Due.is("new sheet " + i, x.item(i, 0, 0), -11);
            Due.is("new shelf " + i, x.taken(i, 0), -11);
        }
        Due.is("new tale", x.of(0, 0), BAD);
        Due.is("new row", x.row(0, 0), -9);
        Due.is("new trace", x.trace(0), NONE);
        Due.is("new z", x.seed(1), 1);
        Due.is("nothing is kept", x.again(), NONE);
    }

    private static void promise4Set() {
        int[] first = {3, 2, 0, 20};
        int[] top = {9, 9, 99, 99};
        WarmGossip x = new WarmGossip();
        for (int law = 0; law < 4; law++) {
            Due.is("set to the top", x.set(law, top[law]), first[law]);
            Due.is("set above the top", x.set(law, top[law] + 1), BAD);
            Due.is("set below 0", x.set(law, -1), BAD);
            Due.is("law at its top", x.lawOf(law), top[law]);
            Due.is("set to 0", x.set(law, 0), top[law]);
            Due.is("law at 0", x.lawOf(law), 0);
        }
        Due.is("set law -1", x.set(-1, 0), BAD);
        Due.is("set law 4", x.set(4, 0), BAD);
        Due.is("set law MIN", x.set(MIN, 0), BAD);
        Due.is("set to MAX", x.set(2, MAX), BAD);
    }

    private static void promise5LawOf() {
        WarmGossip x = new WarmGossip();
        Due.is("AIR", x.lawOf(0), 3);
        Due.is("SPICE", x.lawOf(1), 2);
        Due.is("CRUST", x.lawOf(2), 0);
        Due.is("MEETING", x.lawOf(3), 20);
        Due.is("law 4", x.lawOf(4), BAD);
        Due.is("law -1", x.lawOf(-1), BAD);
    }

    private static void promise6Tale() {
        WarmGossip x = new WarmGossip();
        Due.is("kind 6", x.tale(6, 0, 0), BAD);
        Due.is("kind -1", x.tale(-1, 0, 0), BAD);
        Due.is("heat 100", x.tale(0, 100, 0), BAD);
        Due.is("heat -1", x.tale(0, -1, 0), BAD);
        Due.is("house 8", x.tale(0, 0, 8), BAD);
        Due.is("house -1", x.tale(0, 0, -1), BAD);
        Due.is("none came", x.many(0), 0);
        for (int i = 0; i < 8; i++) {
            Due.is("tale number", x.tale(i % 6, 99 - i, 7 - i), i);
        }
        Due.is("a ninth", x.tale(0, 0, 0), FULL);
        Due.is("a ninth that is not as told", x.tale(0, 0, 8), BAD);
        Due.is("eight", x.many(0), 8);
        Due.is("heard where it comes", x.of(2, 3), 1 << 5);
    }

    private static void promise7Of() {
        WarmGossip x = new WarmGossip();
        x.tale(4, 17, 6);
        x.carry(0, 2);
        Due.is("KIND", x.of(0, 0), 4);
        Due.is("HEAT", x.of(0, 1), 17);
        Due.is("AT", x.of(0, 2), 2);
        Due.is("HEARD", x.of(0, 3), 1 << 6 | 1 << 2);
        Due.is("what 4", x.of(0, 4), BAD);
        Due.is("what -1", x.of(0, -1), BAD);
        Due.is("tale 1", x.of(1, 0), BAD);
        Due.is("tale -1", x.of(-1, 0), BAD);
    }

    private static void promise8Cools() {
        WarmGossip x = new WarmGossip();
        for (int kind = 0; kind < 6; kind++) {
            x.tale(kind, 11, 0);
        }
        x.set(0, 4);
        x.set(1, 5);
        x.set(2, 10);
        x.house(0, 2, 1);
        Due.is("tale cools", x.does(0, 0), 1004);
        Due.is("news cools", x.does(1, 0), 1003);
        Due.is("rumour cools", x.does(2, 0), 1008);
        Due.is("scandal cools", x.does(3, 0), 998);
        Due.is("whisper cools", x.does(4, 0), 1009);
        Due.is("truth above CRUST", x.does(5, 0), 999);
        x.carry(4, 1);
        x.carry(4, 2);
        Due.is("whisper that three have heard", x.does(4, 0), 1011);
        x.warm(5, 10);
        Due.is("truth not above CRUST", x.does(5, 0), 1004);
        x.set(0, 0);
        Due.is("news below 0", x.does(1, 0), 999);
        Due.is("what 2", x.does(0, 2), BAD);
        Due.is("what -1", x.does(0, -1), BAD);
        Due.is("tale 6", x.does(6, 0), BAD);
        Due.is("tale -1", x.does(-1, 1), BAD);
    }

    private static void promise8Doors() {
        int[][] byKind = {{1, 1, 1, 1, 1, 1}, {1, 1, 1, 1, 1, 1}, {2, 2, 2, 2, 2, 2},
            {2, 2, 2, 2, 2, 2}, {2, 1, 2, 1, 2, 1}, {1, 0, 0, 1, 0, 0}};
        for (int kind = 0; kind < 6; kind++) {
            WarmGossip x = new WarmGossip();
            x.tale(kind, 50, 0);
            for (int m = 0; m < 6; m++) {
                Due.is("kind " + kind + " tells at minute " + m, x.does(0, 1), 1000 + byKind[kind][m]);
                x.minutes(1);
            }
        }
    }

    private static void promise9Mind() {
        WarmGossip x = new WarmGossip();
        x.tale(0, 5, 0);
        Due.is("mind", x.mind(0, 5), 0);
        Due.is("mind again", x.mind(0, 5), 5);
        Due.is("its kind", x.of(0, 0), 5);
        Due.is("its heat stays", x.of(0, 1), 5);
        Due.is("AT which it is stays", x.of(0, 2), 0);
        Due.is("who has HEARD it stays", x.of(0, 3), 1);
        Due.is("to what it is", x.mind(0, 5), 5);
        Due.is("kind 6", x.mind(0, 6), BAD);
        Due.is("kind -1", x.mind(0, -1), BAD);
        Due.is("tale 1", x.mind(1, 0), BAD);
        Due.is("tale -1", x.mind(-1, 0), BAD);
        Due.is("its kind yet", x.of(0, 0), 5);
    }

    private static void promise10Warm() {
        WarmGossip x = new WarmGossip();
        x.tale(0, 5, 0);
        Due.is("warm", x.warm(0, 99), 5);
        Due.is("warm to 0", x.warm(0, 0), 99);
        Due.is("heat 100", x.warm(0, 100), BAD);
        Due.is("heat -1", x.warm(0, -1), BAD);
        Due.is("tale 1", x.warm(1, 3), BAD);
        Due.is("tale -1", x.warm(-1, 3), BAD);
        Due.is("its heat", x.of(0, 1), 0);
    }

    private static void promise11Carry() {
        WarmGossip x = new WarmGossip();
        x.tale(0, 5, 3);
        Due.is("carry", x.carry(0, 7), 3);
        Due.is("it is there", x.of(0, 2), 7);
        Due.is("heard there too", x.of(0, 3), 1 << 3 | 1 << 7);
        Due.is("carry to where it is", x.carry(0, 7), 7);
        Due.is("house 8", x.carry(0, 8), BAD);
        Due.is("house -1", x.carry(0, -1), BAD);
        Due.is("tale 1", x.carry(1, 0), BAD);
        Due.is("tale -1", x.carry(-1, 0), BAD);
    }

    private static void promise12House() {
        WarmGossip x = new WarmGossip();
        Due.is("friend", x.house(7, 0, 7), 0);
        Due.is("friend again", x.house(7, 0, 0), 7);
        Due.is("taste", x.house(3, 1, 99), 1);
        Due.is("taste 0", x.house(3, 1, 0), 99);
        Due.is("box", x.house(4, 2, 1), 0);
        Due.is("box twice", x.house(4, 2, 1), 1);
        Due.is("another box", x.house(0, 2, 1), 0);
        Due.is("no box", x.house(4, 2, 0), 1);
        Due.is("no box twice", x.house(4, 2, 0), 0);
        Due.is("the other box stays", x.state(4), 1);
        Due.is("friend 8", x.house(0, 0, 8), BAD);
        Due.is("friend -1", x.house(0, 0, -1), BAD);
        Due.is("taste 100", x.house(0, 1, 100), BAD);
        Due.is("taste -1", x.house(0, 1, -1), BAD);
        Due.is("box 2", x.house(0, 2, 2), BAD);
        Due.is("box -1", x.house(0, 2, -1), BAD);
        Due.is("what 3", x.house(0, 3, 0), BAD);
        Due.is("what -1", x.house(0, -1, 0), BAD);
        Due.is("house 8", x.house(8, 0, 0), BAD);
        Due.is("house -1", x.house(-1, 2, 1), BAD);
        Due.is("house 0 as it was", x.houseOf(0, 0) * 10 + x.houseOf(0, 1), 11);
    }

    private static void promise13HouseOf() {
        WarmGossip x = new WarmGossip();
        x.house(2, 0, 0);
        x.house(5, 0, 5);
        x.house(5, 1, 42);
        x.house(5, 2, 1);
        x.tale(0, 9, 5);
        x.tale(1, 9, 5);
        x.tale(2, 9, 4);
        x.carry(0, 4);
        Due.is("FRIEND", x.houseOf(5, 0), 5);
        Due.is("TASTE", x.houseOf(5, 1), 42);
        Due.is("BOX", x.houseOf(5, 2), 1);
        Due.is("TALES AT 5", x.houseOf(5, 3), 2);
        Due.is("TALES AT 4", x.houseOf(4, 3), 5);
        Due.is("LOOP to itself", x.houseOf(5, 4), 32);
        Due.is("LOOP of three", x.houseOf(1, 4), 7);
        Due.is("LOOP behind a way", x.houseOf(6, 4), 64 + 128 + 7);
        Due.is("HEARD at 5", x.houseOf(5, 5), 3);
        Due.is("HEARD at 4", x.houseOf(4, 5), 5);
        Due.is("HEARD at 0", x.houseOf(0, 5), 0);
        Due.is("LOOP of all", new WarmGossip().houseOf(3, 4), 255);
        Due.is("what 6", x.houseOf(0, 6), BAD);
        Due.is("what -1", x.houseOf(0, -1), BAD);
        Due.is("house 8", x.houseOf(8, 0), BAD);
        Due.is("house -1", x.houseOf(-1, 0), BAD);
    }

    private static void promise14HandsOn() {
        WarmGossip x = new WarmGossip();
        x.tale(0, 20, 0);
        x.tale(3, 20, 6);
        Due.is("minutes 0", x.minutes(0), BAD);
        Due.is("minutes 61", x.minutes(61), BAD);
        Due.is("minutes -1", x.minutes(-1), BAD);
        Due.is("none went", x.state(0), 0);
        Due.is("heat of all together", x.minutes(1), 17 + 20);
        Due.is("a tale goes on by one", x.of(0, 2), 1);
        Due.is("who has heard it", x.of(0, 3), 3);
        Due.is("a scandal goes on by two", x.of(1, 2), 0);
        Due.is("all on its way heard it", x.of(1, 3), 64 + 128 + 1);
        x.house(2, 1, 17);
        x.minutes(1);
        Due.is("as warm as the taste", x.of(0, 2), 2);
        x.house(3, 1, 15);
        x.minutes(1);
        Due.is("less warm than the taste", x.of(0, 2), 2);
        Due.is("it cools all the same", x.of(0, 1), 11);
        Due.is("minutes", x.state(0), 3);
        x.warm(1, 30);
        x.carry(1, 0);
        x.house(1, 1, 31);
        x.minutes(1);
        Due.is("it stays all the other times", x.of(1, 2), 0);
        Due.is("sixty", x.minutes(60), 30);
        Due.is("minutes then", x.state(0), 64);
    }

    private static void promise14Cools() {
        WarmGossip x = new WarmGossip();
        x.tale(0, 2, 0);
        x.tale(3, 98, 0);
        x.tale(4, 50, 0);
        x.tale(5, 50, 0);
        x.set(0, 0);
        Due.is("heat of all", x.minutes(1), 2 + 99 + 47 + 51);
        Due.is("held to 99", x.of(1, 1), 99);
        Due.is("a whisper cools by those that heard it just then", x.of(2, 1), 47);
        Due.is("a truth", x.of(3, 1), 51);
        Due.is("which goes on in minute 0", x.of(3, 2), 1);
        x.minutes(2);
        Due.is("and not in 1, 2", x.of(3, 2), 1);
        x.minutes(1);
        Due.is("but in 3", x.of(3, 2), 2);
        x.set(0, 9);
        x.minutes(1);
        Due.is("held to 0", x.of(0, 1), 0);
    }

    private static void promise14Boxes() {
        WarmGossip x = new WarmGossip();
        x.tale(0, 20, 0);
        x.house(0, 2, 1);
        Due.is("a box behind it counts for nothing", x.minutes(1), 17);
        x.house(2, 2, 1);
        Due.is("half of 3, cut", x.minutes(1), 16);
        x.house(3, 2, 1);
        x.mind(0, 1);
        x.set(0, 0);
        Due.is("half of -1, cut", x.minutes(1), 16);
        x.mind(0, 3);
        x.house(5, 2, 1);
        Due.is("half of -3, cut", x.minutes(1), 17);
        x.mind(0, 2);
        x.set(0, 2);
        x.house(7, 2, 1);
        Due.is("half of 4", x.minutes(1), 15);
    }

    private static void promise15Seed() {
        WarmGossip x = new WarmGossip();
        Due.is("z at first", x.seed(MIN), 1);
        Due.is("z below 0", x.seed(-5), MIN);
        Due.is("z", x.seed(7), -5);
    }

    private static int next(int z) {
        return z * 1103515245 + 12345;
    }

    private static void promise16Minute() {
        WarmGossip x = new WarmGossip();
        Due.is("no tales", x.minute(), 0);
        Due.is("no draw", x.seed(1), 1);
        Due.is("a minute all the same", x.state(0), 1);
        for (int seed = -3; seed <= 12; seed++) {
            WarmGossip y = new WarmGossip();
            for (int i = 0; i < 3; i++) {
                y.tale(0, 50, i);
            }
            y.set(3, 50);
            y.seed(seed);
            int[] z = new int[3];
            z[0] = next(seed);
            z[1] = next(z[0]);
            z[2] = next(z[1]);
            int one = (z[0] >>> 16) % 3;
            boolean meets = (z[1] >>> 16) % 100 < 50;
            int there = meets ? (z[2] >>> 16) % 8 : one;
            Due.is("heat of all, seed " + seed, y.minute(), 141);
            Due.is("met at and handed on, seed " + seed, y.of(one, 2), (there + 1) % 8);
            Due.is("heard, seed " + seed, y.of(one, 3), 1 << one | 1 << there | 1 << (there + 1) % 8);
            Due.is("another, seed " + seed, y.of((one + 1) % 3, 2), (one + 1) % 3 + 1);
            Due.is("z, seed " + seed, y.seed(0), meets ? z[2] : z[1]);
        }
        WarmGossip edge = new WarmGossip();
        edge.tale(0, 50, 0);
        int second = (next(next(1)) >>> 16) % 100;
        edge.set(3, second);
        edge.minute();
        Due.is("what is drawn is not below MEETING", edge.seed(1), next(next(1)));
        edge.set(3, second + 1);
        edge.minute();
        Due.is("what is drawn is below MEETING", edge.seed(1), next(next(next(1))));
        WarmGossip none = new WarmGossip();
        none.tale(0, 50, 0);
        none.set(3, 0);
        none.minute();
        Due.is("two draws without a meeting", none.seed(0), next(next(1)));
    }

    private static void promise17Spread() {
        WarmGossip x = new WarmGossip();
        Due.is("without tales", x.spread(30), 0);
        x.tale(0, 50, 4);
        x.house(4, 0, 4);
        x.set(3, 60);
        x.seed(99);
        int z = 99;
        int more = 0;
        for (int i = 0; i < 30; i++) {
            z = next(next(z));
            if ((z >>> 16) % 100 < 60) {
                z = next(z);
                more += (z >>> 16) % 8 == 4 ? 0 : 1;
            }
        }
        String before = Parishes.seen(x);
        Due.is("spread", x.spread(30), more);
        Due.holds("spread changes nothing", before.equals(Parishes.seen(x)));
        Due.holds("the spread tells something", more > 3 && more < 27);
        Due.is("n 0", x.spread(0), BAD);
        Due.is("n 31", x.spread(31), BAD);
        Due.is("n -1", x.spread(-1), BAD);
    }

    /** It goes on to 1 by itself; met at 0 or 7 it is heard by no more than two either. */
    private static void promise17SpreadBeyondAMinute() {
        WarmGossip x = new WarmGossip();
        x.tale(0, 50, 0);
        x.set(3, 0);
        Due.is("without meetings", x.spread(30), 0);
        x.set(3, 50);
        for (int seed = 0; seed < 40; seed++) {
            int z = next(next(seed));
            boolean meets = (z >>> 16) % 100 < 50;
            int there = (next(z) >>> 16) % 8;
            x.seed(seed);
            Due.is("by one, seed " + seed, x.spread(1), meets && there != 0 && there != 7 ? 1 : 0);
        }
    }

    /** Two tales heard by the same house count twice. */
    private static void promise17SpreadAddsUp() {
        WarmGossip x = new WarmGossip();
        for (int h = 0; h < 8; h++) {
            x.house(h, 0, h);
        }
        x.tale(0, 50, 0);
        x.tale(0, 50, 0);
        for (int h = 1; h < 8; h++) {
            x.carry(0, h);
        }
        x.set(3, 99);
        int z = 1;
        int more = 0;
        for (int i = 0; i < 20; i++) {
            z = next(z);
            int one = (z >>> 16) % 2;
            z = next(z);
            if ((z >>> 16) % 100 < 99) {
                z = next(z);
                more += one == 1 && (z >>> 16) % 8 != 0 ? 1 : 0;
            }
        }
        Due.holds("some are heard more", more > 0 && more < 20);
        Due.is("all tales together", x.spread(20), more);
    }

    private static void promise18State() {
        WarmGossip x = new WarmGossip();
        x.tale(0, 20, 3);
        Due.is("the one HOUSE", x.state(3), 8);
        x.tale(0, 0, 3);
        x.tale(0, 7, 6);
        x.carry(2, 3);
        x.carry(2, 1);
        x.house(7, 2, 1);
        x.house(2, 2, 1);
        Due.is("HEAT of all", x.state(1), 27);
        Due.is("heard by, together", x.state(2), 1 + 1 + 3);
        Due.is("houses AT which one is", x.state(3), 8 + 2);
        Due.is("boxes", x.state(4), 128 + 4);
        Due.is("tales whose HEAT is 0", x.state(5), 2);
        x.warm(0, 0);
        Due.is("all tales whose HEAT is 0", x.state(5), 3);
        x.minutes(7);
        Due.is("MINUTE", x.state(0), 7);
        Due.is("what 6", x.state(6), BAD);
        Due.is("what -1", x.state(-1), BAD);
    }
}
