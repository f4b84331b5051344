/** Section 1 of the document, LAWS: each sentence that names an edge, by that sentence. */
public final class EdgesOfLawsTest {
    private static final int FULL = -2, NONE = -3;
    private static final int TALE = 0, NEWS = 1, RUMOUR = 2, SCANDAL = 3, WHISPER = 4, TRUTH = 5;

    private EdgesOfLawsTest() {
    }

    public static void main(String[] args) {
        lawsAtFirst();
        behind7Comes0();
        perhapsItself();
        boxes();
        eightAtMost();
        heardAtFirst();
        coolsAtTheEndsOfLaws();
        coolsOfTruth();
        doorsByMinutes();
        tasteOrMore();
        thisTimeAndAllOthers();
        doorsOfNone();
        itCameToHeardIt();
        heldTo0And99();
        halfOfThatCut();
        boxAtItsHouseThen();
        coolsAsItIsThen();
        eachTaleByItself();
        minuteIs1More();
        Due.end();
    }

    private static WarmGossip one(int kind, int heat, int house) {
        WarmGossip x = new WarmGossip();
        x.tale(kind, heat, house);
        return x;
    }

    /** "0 AIR (0 to 9; 3 at first), 1 SPICE (..; 2), 2 CRUST (..; 0), 3 MEETING (..; 20). MINUTE (0 at first)." */
    private static void lawsAtFirst() {
        WarmGossip x = new WarmGossip();
        int[] first = {3, 2, 0, 20};
        int[] top = {9, 9, 99, 99};
        for (int law = 0; law < 4; law++) {
            Due.is("at first, law " + law, x.lawOf(law), first[law]);
            Due.is("its least", x.set(law, 0), first[law]);
            Due.is("is taken", x.lawOf(law), 0);
            Due.is("its greatest", x.set(law, top[law]), 0);
            Due.is("is taken", x.lawOf(law), top[law]);
            Due.is("one less than its least", x.set(law, -1), -1);
            Due.is("one more than its greatest", x.set(law, top[law] + 1), -1);
            Due.is("neither is taken", x.lawOf(law), top[law]);
        }
        Due.is("MINUTE at first", x.state(0), 0);
    }

    /** "a FRIEND (a HOUSE, ..; the next one at first, behind 7 comes 0)" */
    private static void behind7Comes0() {
        WarmGossip x = one(TALE, 50, 7);
        Due.is("the friend of 7", x.houseOf(7, 0), 0);
        Due.is("the friend of 6", x.houseOf(6, 0), 7);
        Due.is("the friend of 0", x.houseOf(0, 0), 1);
        x.minutes(1);
        Due.is("behind 7", x.of(0, 2), 0);
        Due.is("heard at both", x.of(0, 3), 129);
        x = one(SCANDAL, 50, 7);
        x.minutes(1);
        Due.is("two behind 7", x.of(0, 2), 1);
        x = one(SCANDAL, 50, 6);
        x.minutes(1);
        Due.is("two behind 6", x.of(0, 2), 0);
    }

    /** "a FRIEND (a HOUSE, perhaps itself" */
    private static void perhapsItself() {
        for (int h = 0; h < 8; h++) {
            WarmGossip x = one(SCANDAL, 50, h);
            Due.is("becomes its own friend", x.house(h, 0, h), (h + 1) % 8);
            x.minutes(1);
            Due.is("it is handed on to itself", x.of(0, 2), h);
            Due.is("no other has heard it", x.of(0, 3), 1 << h);
            Due.is("its loop is itself", x.houseOf(h, 4), 1 << h);
            Due.is("the loop of all others ends there", x.houseOf((h + 1) % 8, 4), 255);
        }
    }

    /** "a BOX, or none (none at first)" */
    private static void boxes() {
        WarmGossip x = new WarmGossip();
        Due.is("none at first", x.state(4), 0);
        for (int h = 0; h < 8; h++) {
            Due.is("none at first", x.house(h, 2, 1), 0);
            Due.is("there is one", x.house(h, 2, 1), 1);
        }
        Due.is("all have one", x.state(4), 255);
        Due.is("all eight", x.many(3), 8);
        for (int h = 7; h >= 0; h--) {
            Due.is("there was one", x.house(h, 2, 0), 1);
            Due.is("there is none", x.house(h, 2, 0), 0);
            Due.is("those below have one", x.state(4), (1 << h) - 1);
        }
    }

    /** "TALES, 8 at most, numbered as they come" */
    private static void eightAtMost() {
        WarmGossip x = new WarmGossip();
        Due.is("none", x.many(0), 0);
        Due.is("heat of none", x.state(1), 0);
        Due.is("heat of none behind a minute", x.minutes(1), 0);
        for (int i = 0; i < 8; i++) {
            Due.is("numbered as they come", x.tale(TALE, 99, 7), i);
        }
        Due.is("a ninth", x.tale(TALE, 99, 7), FULL);
        Due.is("eight", x.many(0), 8);
        Due.is("all AT 7", x.houseOf(7, 3), 255);
        Due.is("all heard at 7", x.houseOf(7, 5), 255);
        Due.is("none AT 0", x.houseOf(0, 3), 0);
        Due.is("one house", x.many(2), 1);
        Due.is("its set", x.state(3), 128);
        Due.is("heat of eight", x.state(1), 792);
        for (int i = 0; i < 8; i++) {
            x.warm(i, 0);
            for (int h = 0; h < 8; h++) {
                x.carry(i, h);
            }
        }
        Due.is("all cold", x.state(5), 255);
        Due.is("none warm", x.many(1), 0);
        Due.is("heard by all, together", x.state(2), 64);
    }

    /** "HEARD: those HOUSES AT which it was, as a set (that AT which it comes, at first)" */
    private static void heardAtFirst() {
        for (int h = 0; h < 8; h++) {
            WarmGossip x = one(h % 6, 0, h);
            Due.is("HEARD at first", x.of(0, 3), 1 << h);
            Due.is("AT which the only one is", x.state(3), 1 << h);
            Due.is("one HOUSE", x.many(2), 1);
            Due.is("the only one is there", x.houseOf(h, 3), 1);
            Due.is("and at no other", x.houseOf((h + 1) % 8, 3), 0);
            Due.is("it has HEARD the only one", x.houseOf(h, 5), 1);
            Due.is("the other has not", x.houseOf((h + 1) % 8, 5), 0);
            Due.is("the only one is cold", x.state(5), 1);
            x.tale(TALE, 1, 7 - h);
            Due.is("AT which the two are", x.state(3), 1 << h | 128 >> h);
        }
        WarmGossip x = one(TALE, 0, 0);
        for (int h = 0; h < 8; h++) {
            x.carry(0, h);
            Due.is("HEARD by " + (h + 1), x.of(0, 3), (2 << h) - 1);
        }
        x.carry(0, 3);
        Due.is("it stays heard", x.of(0, 3), 255);
    }

    private static void cools(String name, int kind, int air, int spice, int heardBy, int due) {
        WarmGossip x = one(kind, 50, 0);
        for (int h = 1; h < heardBy; h++) {
            x.carry(0, h);
        }
        x.set(0, air);
        x.set(1, spice);
        x.set(2, 99);
        Due.is(name + " COOLS, AIR " + air + ", SPICE " + spice + ", heard by " + heardBy, x.does(0, 0), 1000 + due);
        x.house(x.of(0, 2), 2, 1);
        Due.is(name + " COOLS without any BOX", x.does(0, 0), 1000 + due);
    }

    /** "COOLS: tale: AIR. news: as tale, less 1 (so it may be below 0). .." */
    private static void coolsAtTheEndsOfLaws() {
        cools("tale", TALE, 0, 9, 8, 0);
        cools("tale", TALE, 9, 9, 8, 9);
        cools("news", NEWS, 0, 9, 8, -1);
        cools("news", NEWS, 1, 9, 8, 0);
        cools("news", NEWS, 9, 9, 8, 8);
        cools("scandal", SCANDAL, 0, 0, 8, -1);
        cools("scandal", SCANDAL, 0, 9, 8, -10);
        cools("scandal", SCANDAL, 9, 0, 8, 8);
        cools("scandal", SCANDAL, 9, 9, 8, -1);
        cools("rumour", RUMOUR, 0, 9, 8, 0);
        cools("rumour", RUMOUR, 9, 9, 8, 18);
        cools("whisper", WHISPER, 0, 9, 1, 1);
        cools("whisper", WHISPER, 0, 9, 8, 8);
        cools("whisper", WHISPER, 9, 9, 1, 19);
        cools("whisper", WHISPER, 9, 9, 8, 26);
    }

    private static void coolsOfTruth(int heat, int crust, int air, int due) {
        WarmGossip x = one(TRUTH, heat, 0);
        x.set(0, air);
        x.set(2, crust);
        Due.is("truth COOLS, HEAT " + heat + ", CRUST " + crust + ", AIR " + air, x.does(0, 0), 1000 + due);
    }

    /** "truth: 0 less 1, if its HEAT is above CRUST; else as tale." */
    private static void coolsOfTruth() {
        coolsOfTruth(0, 0, 9, 9);
        coolsOfTruth(0, 0, 0, 0);
        coolsOfTruth(1, 0, 9, -1);
        coolsOfTruth(49, 50, 9, 9);
        coolsOfTruth(50, 50, 9, 9);
        coolsOfTruth(51, 50, 9, -1);
        coolsOfTruth(99, 98, 9, -1);
        coolsOfTruth(99, 99, 9, 9);
        coolsOfTruth(99, 99, 0, 0);
    }

    /** "whisper: as rumour, less 1 in odd MINUTES. truth: as tale, in MINUTES whose rest by 3 is 0; else 0." */
    private static void doorsByMinutes() {
        WarmGossip x = new WarmGossip();
        for (int kind = 0; kind < 6; kind++) {
            x.tale(kind, 50, 0);
        }
        for (int minute = 0; minute < 14; minute++) {
            Due.is("tale, MINUTE " + minute, x.does(0, 1), 1001);
            Due.is("news, MINUTE " + minute, x.does(1, 1), 1001);
            Due.is("rumour, MINUTE " + minute, x.does(2, 1), 1002);
            Due.is("scandal, MINUTE " + minute, x.does(3, 1), 1002);
            Due.is("whisper, MINUTE " + minute, x.does(4, 1), minute % 2 == 1 ? 1001 : 1002);
            Due.is("truth, MINUTE " + minute, x.does(5, 1), minute % 3 == 0 ? 1001 : 1000);
            x.minutes(1);
        }
        int[] steps = {46, 60, 1, 1, 1};
        int[] whisper = {1002, 1002, 1001, 1002, 1001};
        int[] truth = {1001, 1001, 1000, 1000, 1001};
        for (int i = 0; i < steps.length; i++) {
            x.minutes(steps[i]);
            Due.is("whisper later", x.does(4, 1), whisper[i]);
            Due.is("truth later", x.does(5, 1), truth[i]);
        }
        Due.is("MINUTE", x.state(0), 123);
    }

    private static void handedOn(int heat, int taste, boolean goes) {
        WarmGossip x = one(TALE, heat, 3);
        x.house(4, 1, taste);
        x.minutes(1);
        String name = "HEAT " + heat + ", TASTE " + taste;
        Due.is(name + ": AT", x.of(0, 2), goes ? 4 : 3);
        Due.is(name + ": HEARD", x.of(0, 3), goes ? 24 : 8);
    }

    /** "if its HEAT is the TASTE of the FRIEND of the HOUSE AT which it is, or more, it is AT that FRIEND" */
    private static void tasteOrMore() {
        handedOn(0, 0, true);
        handedOn(0, 1, false);
        handedOn(1, 1, true);
        handedOn(1, 0, true);
        handedOn(49, 50, false);
        handedOn(50, 50, true);
        handedOn(51, 50, true);
        handedOn(98, 99, false);
        handedOn(99, 99, true);
        WarmGossip x = one(TALE, 50, 3);
        x.house(3, 1, 99);
        x.house(5, 1, 99);
        x.minutes(1);
        Due.is("the TASTE of no other counts", x.of(0, 2), 4);
        x = one(TALE, 50, 3);
        x.house(3, 0, 6);
        x.house(4, 1, 99);
        x.minutes(1);
        Due.is("the FRIEND, not the next one", x.of(0, 2), 6);
    }

    /** "(else it stays, this time and all others)" */
    private static void thisTimeAndAllOthers() {
        WarmGossip x = one(SCANDAL, 50, 0);
        x.house(1, 1, 51);
        x.house(2, 1, 0);
        x.minutes(1);
        Due.is("it stays the first time, and the second", x.of(0, 2), 0);
        Due.is("heard there alone", x.of(0, 3), 1);
        x = one(SCANDAL, 50, 0);
        x.house(2, 1, 51);
        x.minutes(1);
        Due.is("it stays the second time", x.of(0, 2), 1);
        Due.is("heard at both", x.of(0, 3), 3);
        x = one(RUMOUR, 50, 0);
        x.house(2, 1, 50);
        x.minutes(1);
        Due.is("it doesn't cool between the times", x.of(0, 2), 2);
    }

    /** "as many times as it tells DOORS": none. */
    private static void doorsOfNone() {
        WarmGossip x = one(TRUTH, 50, 2);
        x.minutes(1);
        Due.is("in MINUTE 0 it goes on", x.of(0, 2), 3);
        x.minutes(1);
        Due.is("in MINUTE 1 it stays", x.of(0, 2), 3);
        Due.is("and is warmer all the same", x.of(0, 1), 52);
        x.minutes(1);
        Due.is("in MINUTE 2 too", x.of(0, 2), 3);
        Due.is("heard by two", x.of(0, 3), 12);
        x.minutes(1);
        Due.is("in MINUTE 3 it goes on", x.of(0, 2), 4);
        Due.is("heard by three", x.of(0, 3), 28);
    }

    /** "it is AT that FRIEND, who has HEARD it from now on" */
    private static void itCameToHeardIt() {
        WarmGossip x = one(SCANDAL, 50, 0);
        x.house(1, 0, 0);
        x.minutes(1);
        Due.is("there and back in one MINUTE", x.of(0, 2), 0);
        Due.is("heard where it went", x.of(0, 3), 3);
        x = one(RUMOUR, 50, 0);
        x.minutes(1);
        Due.is("heard where it went through", x.of(0, 3), 7);
    }

    private static void heatThen(String name, int kind, int heat, int air, int spice, boolean box, int due) {
        WarmGossip x = one(kind, heat, 4);
        x.house(4, 0, 4);
        x.set(0, air);
        x.set(1, spice);
        x.house(4, 2, box ? 1 : 0);
        Due.is(name, x.minutes(1), due);
        Due.is(name + ", of it", x.of(0, 1), due);
    }

    /** "HEAT is what it COOLS less (held to 0 to 99)" */
    private static void heldTo0And99() {
        heatThen("10 by 9", TALE, 10, 9, 0, false, 1);
        heatThen("9 by 9", TALE, 9, 9, 0, false, 0);
        heatThen("8 by 9", TALE, 8, 9, 0, false, 0);
        heatThen("0 by 9", TALE, 0, 9, 0, false, 0);
        heatThen("0 by 0", TALE, 0, 0, 0, false, 0);
        heatThen("99 by 0", TALE, 99, 0, 0, false, 99);
        heatThen("97 by -1", NEWS, 97, 0, 0, false, 98);
        heatThen("98 by -1", NEWS, 98, 0, 0, false, 99);
        heatThen("99 by -1", NEWS, 99, 0, 0, false, 99);
        heatThen("0 by -1", NEWS, 0, 0, 0, false, 1);
        heatThen("88 by -10", SCANDAL, 88, 0, 9, false, 98);
        heatThen("89 by -10", SCANDAL, 89, 0, 9, false, 99);
        heatThen("90 by -10", SCANDAL, 90, 0, 9, false, 99);
        heatThen("0 by 18", RUMOUR, 0, 9, 0, false, 0);
        heatThen("19 by 18", RUMOUR, 19, 9, 0, false, 1);
        heatThen("truth of 98", TRUTH, 98, 9, 0, false, 99);
        heatThen("truth of 99", TRUTH, 99, 9, 0, false, 99);
        heatThen("truth of 1", TRUTH, 1, 9, 0, false, 2);
        heatThen("truth of 0", TRUTH, 0, 9, 0, false, 0);
    }

    /** "half of that (cut), if there is a BOX AT its HOUSE", and "Quotients are cut towards 0." */
    private static void halfOfThatCut() {
        heatThen("half of 0", TALE, 50, 0, 0, true, 50);
        heatThen("half of 1", TALE, 50, 1, 0, true, 50);
        heatThen("half of 2", TALE, 50, 2, 0, true, 49);
        heatThen("half of 3", TALE, 50, 3, 0, true, 49);
        heatThen("half of 9", TALE, 50, 9, 0, true, 46);
        heatThen("half of -1", NEWS, 50, 0, 0, true, 50);
        heatThen("half of -2", SCANDAL, 50, 0, 1, true, 51);
        heatThen("half of -3", SCANDAL, 50, 0, 2, true, 51);
        heatThen("half of -10", SCANDAL, 50, 0, 9, true, 55);
        heatThen("half of 18", RUMOUR, 50, 9, 0, true, 41);
        heatThen("half of 19", WHISPER, 50, 9, 0, true, 41);
        heatThen("half of -1 of truth", TRUTH, 50, 9, 0, true, 50);
        heatThen("held to 0", RUMOUR, 8, 9, 0, true, 0);
        heatThen("held to 99", SCANDAL, 95, 0, 9, true, 99);
    }

    /** "if there is a BOX AT its HOUSE": where it is then, not where it was or went through. */
    private static void boxAtItsHouseThen() {
        for (int h = 0; h < 4; h++) {
            WarmGossip x = one(RUMOUR, 50, 0);
            x.house(h, 2, 1);
            Due.is("a BOX AT " + h, x.minutes(1), h == 2 ? 47 : 44);
        }
    }

    /** A whisper COOLS by those that have HEARD it then; a truth by its HEAT of the MINUTE before. */
    private static void coolsAsItIsThen() {
        WarmGossip x = one(WHISPER, 50, 0);
        x.set(0, 0);
        Due.is("heard by three then", x.minutes(1), 47);
        Due.is("heard by four then", x.minutes(1), 43);
        Due.is("heard by six then", x.minutes(1), 37);
        x = one(TRUTH, 10, 0);
        x.set(2, 9);
        Due.is("above CRUST", x.minutes(1), 11);
        x.set(2, 11);
        Due.is("not above CRUST", x.minutes(1), 8);
        x = one(WHISPER, 60, 0);
        for (int h = 7; h >= 0; h--) {
            x.carry(0, h);
        }
        x.set(0, 9);
        Due.is("heard by all", x.minutes(1), 34);
    }

    /** "A MINUTE: each TALE, by numbers" */
    private static void eachTaleByItself() {
        WarmGossip x = new WarmGossip();
        for (int i = 0; i < 8; i++) {
            x.tale(TALE, 10 + i, i);
        }
        Due.is("heat of all together", x.minutes(1), 8 * 7 + 28);
        for (int i = 0; i < 8; i++) {
            Due.is("AT, of " + i, x.of(i, 2), (i + 1) % 8);
            Due.is("HEAT of " + i, x.of(i, 1), 7 + i);
            Due.is("HEARD of " + i, x.of(i, 3), 1 << i | 1 << (i + 1) % 8);
        }
        Due.is("as cold as can be", x.minutes(60), 0);
        Due.is("all tales", x.state(5), 255);
        Due.is("none goes home then", x.home(0), NONE);
    }

    /** "MINUTE is 1 more." */
    private static void minuteIs1More() {
        WarmGossip x = new WarmGossip();
        x.minutes(1);
        Due.is("one", x.state(0), 1);
        x.minutes(60);
        Due.is("sixty more", x.state(0), 61);
        x.minute();
        Due.is("one by draws", x.state(0), 62);
        for (int i = 0; i < 400; i++) {
            x.minutes(60);
        }
        Due.is("many", x.state(0), 24062);
    }
}
