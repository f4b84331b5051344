/** Promises 2 and 3: the tape and the text. */
public final class TapeTest {
    private static final int BAD = -1, FULL = -2;

    private TapeTest() {
    }

    public static void main(String[] args) {
        promise2Feed();
        promise2Order();
        promise3Told();
        promise3AllByItAlone();
        promise3Numbers();
        promise3Blanks();
        promise3FaultsOfTales();
        promise3FaultsOfTheOthers();
        promise3Ends();
        promise3Ninth();
        promise3OtherBytes();
        promise3FaultChangesNothing();
        Due.end();
    }

    private static void promise2Feed() {
        WarmGossip x = new WarmGossip();
        Due.is("n 0", x.feed(0, 0), BAD);
        Due.is("n 9", x.feed(0, 9), BAD);
        Due.is("n -1", x.feed(0, -1), BAD);
        for (int i = 1; i <= 24; i++) {
            Due.is("feed", x.feed(0x2020202020202020L, 8), 8 * i);
        }
        Due.is("seven more", x.feed(0x2020202020202020L, 7), 199);
        Due.is("two are too many", x.feed(0, 2), FULL);
        Due.is("none of them came", x.many(5), 199);
        Due.is("the last", x.feed(0x20, 1), 200);
        Due.is("full", x.feed(0, 1), FULL);
        Due.is("full, and not as told", x.feed(0, 9), BAD);
        Due.is("200 blanks", x.parish(), 0);
        Due.is("the tape is used up", x.many(5), 0);
        Due.is("and takes bytes again", x.feed(0, 1), 1);
    }

    private static void promise2Order() {
        WarmGossip x = new WarmGossip();
        x.feed('b' | 'o' << 8 | 'x' << 16 | 1L << 60, 3);
        x.feed(' ' | '5' << 8 | ';' << 16, 3);
        Due.is("lowest first", x.parish(), 0);
        Due.is("box", x.state(4), 32);
    }

    private static void promise3Told() {
        WarmGossip x = Parishes.withText("tale at 1;news at 2 heat 99;rumour at 3 heat 0;"
            + "scandal at 4;whisper at 7;truth at 0 heat 7;");
        int[] kind = {0, 1, 2, 3, 4, 5};
        int[] heat = {50, 99, 0, 50, 50, 7};
        int[] at = {1, 2, 3, 4, 7, 0};
        Due.is("tales", x.many(0), 6);
        for (int i = 0; i < 6; i++) {
            Due.is("KIND of " + i, x.of(i, 0), kind[i]);
            Due.is("HEAT of " + i, x.of(i, 1), heat[i]);
            Due.is("AT of " + i, x.of(i, 2), at[i]);
            Due.is("HEARD of " + i, x.of(i, 3), 1 << at[i]);
        }
        x = Parishes.withText("friend 7 is 7;friend 2 is 0;taste 3 is 99;taste 3 is 98;box 0;box 6;box 6;"
            + "air 9;spice 8;crust 97;meeting 96;");
        Due.is("friend of 7", x.houseOf(7, 0), 7);
        Due.is("friend of 2", x.houseOf(2, 0), 0);
        Due.is("taste, the later", x.houseOf(3, 1), 98);
        Due.is("boxes", x.state(4), 65);
        Due.is("AIR", x.lawOf(0), 9);
        Due.is("SPICE", x.lawOf(1), 8);
        Due.is("CRUST", x.lawOf(2), 97);
        Due.is("MEETING", x.lawOf(3), 96);
        Due.is("the empty text", Parishes.told(""), 0);
    }

    private static void promise3AllByItAlone() {
        WarmGossip x = new WarmGossip();
        x.tale(3, 9, 3);
        x.keep();
        x.set(0, 0);
        x.house(1, 0, 1);
        x.house(1, 1, 9);
        x.house(1, 2, 1);
        x.seed(77);
        x.minutes(5);
        x.prove(0, 4);
        x.sheet(0, 0, 3);
        x.shelf(0, 0, 0);
        x.act(0, 0, 1);
        Parishes.feed(x, "news at 5;");
        Due.is("parish", x.parish(), 1);
        Due.is("its one tale", x.of(0, 0), 1);
        Due.is("MINUTE as at first", x.state(0), 0);
        Due.is("AIR as at first", x.lawOf(0), 3);
        Due.is("friend as at first", x.houseOf(1, 0), 2);
        Due.is("taste as at first", x.houseOf(1, 1), 1);
        Due.is("no box", x.state(4), 0);
        Due.is("no rows", x.many(4), 0);
        Due.is("the sheet stays", x.item(0, 0, 2), 0);
        Due.is("the shelf stays", x.taken(0, 1), 0);
        Due.is("the trace stays", x.many(6), 2);
        Due.is("z stays", x.seed(1), 77);
        Due.is("what was kept stays", x.again(), 1);
        Due.is("the kept tale", x.of(0, 0), 3);
    }

    private static void promise3Numbers() {
        Due.is("three digits", Parishes.withText("tale at 007 heat 099;").of(0, 2), 7);
        Due.is("four digits", Parishes.told("tale at 0007;"), -108);
        Due.is("many digits", Parishes.told("tale at 00000000000000000000000000001;"), -108);
        Due.is("four digits of heat", Parishes.told("tale at 1 heat 0009;"), -115);
        Due.is("heat 99", Parishes.withText("tale at 1 heat 99;").of(0, 1), 99);
        Due.is("heat 100", Parishes.told("tale at 1 heat 100;"), -115);
    }

    private static void promise3Blanks() {
        Due.is("blanks", Parishes.told("  tale   at  3   heat 4  ;  box 1 ; "), 1);
        Due.is("none but those that part names", Parishes.told("tale at3heat4;box1;"), 1);
        Due.is("a name goes as long as it goes", Parishes.told("taleat 3;"), -100);
        Due.is("a number too", Parishes.told("box 1 2;"), -106);
        Due.is("a blank in a name", Parishes.told("ta le at 3;"), -100);
    }

    private static void promise3FaultsOfTales() {
        Due.is("house 8", Parishes.told("tale at 8;"), -108);
        Due.is("another name", Parishes.told("tales at 1;"), -100);
        Due.is("part of a name", Parishes.told("tal at 1;"), -100);
        Due.is("another first letter", Parishes.told("bale at 1;"), -100);
        Due.is("another last letter", Parishes.told("talk at 1;"), -100);
        Due.is("capitals", Parishes.told("Tale at 1;"), -100);
        Due.is("capitals later", Parishes.told("tAle at 1;"), -100);
        Due.is("not at", Parishes.told("tale is 1;"), -105);
        Due.is("a number for at", Parishes.told("tale 1;"), -105);
        Due.is("a name for a number", Parishes.told("tale at one;"), -108);
        Due.is("a semicolon for a number", Parishes.told("tale at ;"), -108);
        Due.is("heat twice", Parishes.told("tale at 1 heat 2 heat 3;"), -117);
        Due.is("not heat", Parishes.told("tale at 1 air 2;"), -110);
        Due.is("heat without a number", Parishes.told("tale at 1 heat;"), -114);
        Due.is("the second", Parishes.told("tale at 1; news at 9;"), -119);
        Due.is("two semicolons", Parishes.told("tale at 1;;"), -110);
        Due.is("a semicolon first", Parishes.told(" ;"), -101);
        Due.is("a number first", Parishes.told("  12;"), -102);
        Due.is("at first", Parishes.told("at 1;"), -100);
    }

    private static void promise3FaultsOfTheOthers() {
        Due.is("friend 8", Parishes.told("friend 1 is 8;"), -112);
        Due.is("friend of 8", Parishes.told("friend 8 is 1;"), -107);
        Due.is("friend 7 of 7", Parishes.told("friend 7 is 7;"), 0);
        Due.is("friend at", Parishes.told("friend 1 at 2;"), -109);
        Due.is("friend without is", Parishes.told("friend 1 2;"), -109);
        Due.is("taste 99", Parishes.told("taste 7 is 99;"), 0);
        Due.is("taste 100", Parishes.told("taste 7 is 100;"), -111);
        Due.is("taste of 8", Parishes.told("taste 8 is 1;"), -106);
        Due.is("box 8", Parishes.told("box 8;"), -104);
        Due.is("box is", Parishes.told("box 1 is 1;"), -106);
        Due.is("air 10", Parishes.told("air 10;"), -104);
        Due.is("spice 10", Parishes.told("spice 10;"), -106);
        Due.is("crust 100", Parishes.told("crust 100;"), -106);
        Due.is("meeting 100", Parishes.told("meeting 100;"), -108);
        Due.is("air is", Parishes.told("air is 1;"), -104);
        Due.is("crust 99", Parishes.told("crust 99;"), 0);
        Due.is("a house has no heat", Parishes.told("heat 1 is 5;"), -100);
    }

    private static void promise3Ends() {
        String[] cut = {"tale", "tale at", "tale at ", "tale at 1", "tale at 1 heat", "tale at 1 heat 5  ",
            "friend", "friend 1", "friend 1 is", "friend 1 is 2", "taste 1 is 2", "box", "box 3", "air", "air 3",
            "box 1; meeting 4"};
        for (String text : cut) {
            Due.is("the end of " + text, Parishes.told(text), -100 - text.length());
        }
    }

    private static void promise3Ninth() {
        String eight = "tale at 0;".repeat(8);
        Due.is("eight", Parishes.told(eight), 8);
        Due.is("the name of a ninth", Parishes.told(eight + "  truth at 99;"), -182);
        Due.is("the name of a ninth, cut", Parishes.told(eight + "news"), -180);
        Due.is("other things behind eight", Parishes.told(eight + "box 1;"), 8);
    }

    private static void promise3OtherBytes() {
        Due.is("a tab", Parishes.told("\ttale at 1;"), -100);
        Due.is("a line's end", Parishes.told("tale at 1;\n"), -110);
        Due.is("a zero", Parishes.told("tale\0at 1;"), -104);
        Due.is("a high byte", Parishes.told("tale at \u00ff1;"), -108);
        Due.is("a byte of 160", Parishes.told("tale\u00a0at 1;"), -104);
        Due.is("a minus", Parishes.told("air -1;"), -104);
        Due.is("behind z", Parishes.told("tale at 1{"), -109);
        Due.is("before a", Parishes.told("tale at 1`"), -109);
        Due.is("before 0", Parishes.told("tale at /"), -108);
        Due.is("a colon", Parishes.told("tale at 1:"), -109);
    }

    private static void promise3FaultChangesNothing() {
        WarmGossip x = new WarmGossip();
        x.tale(2, 30, 1);
        x.minutes(2);
        x.prove(0, 3);
        x.set(0, 7);
        x.seed(5);
        String before = Parishes.seen(x);
        Parishes.feed(x, "tale at 4;air 1;box 3;friend 1 is 9;");
        Due.is("fault", x.parish(), -100 - 34);
        Due.holds("a fault changes nothing but the tape", before.equals(Parishes.seen(x)));
        Due.is("used up", x.parish(), 0);
        Due.is("z stays", x.seed(6), 5);
        Parishes.feed(x, "tale at 6;box 7;");
        x.seed(8);
        Due.is("another text", x.parish(), 1);
        Due.is("its box", x.state(4), 128);
        Due.is("z stays again", x.seed(1), 8);
    }
}
