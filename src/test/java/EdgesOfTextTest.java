/** THE TAPE and TEXT, in section 2 of the document: each sentence that names an edge, by that sentence. */
public final class EdgesOfTextTest {
    private static final int FULL = -2;
    private static final String[] KINDS = {"tale", "news", "rumour", "scandal", "whisper", "truth"};
    /** What stands before a number, what behind it, and the greatest that it may be. */
    private static final String[][] PLACES = {
        {"tale at ", ";", "7"}, {"truth at 1 heat ", " ;", "99"}, {"friend ", " is 1;", "7"}, {"friend 1 is ", ";", "7"},
        {"taste ", " is 1;", "7"}, {"taste 1 is ", ";", "99"}, {"box ", ";", "7"}, {"air ", ";", "9"},
        {"spice ", ";", "9"}, {"crust ", ";", "99"}, {"meeting ", ";", "99"},
    };
    /** Whole sentences, their parts set apart by blanks. */
    private static final String[] SENTENCES = {
        "tale at 3 ;", "news at 3 heat 7 ;", "rumour at 3 ;", "scandal at 0 heat 99 ;", "whisper at 7 ;",
        "truth at 3 heat 0 ;", "friend 3 is 7 ;", "taste 3 is 70 ;", "box 3 ;", "air 3 ;", "spice 3 ;", "crust 3 ;",
        "meeting 3 ;",
    };

    private EdgesOfTextTest() {
    }

    public static void main(String[] args) {
        twoHundredAtMost();
        usedUp();
        lowestFirst();
        nothingTold();
        twoHundredTold();
        theLeastAndTheGreatest();
        oneToThreeDigits();
        notANumber();
        ofMoreMustCome();
        everyCut();
        blanks();
        blanksTwoHundred();
        namesAsLongAsTheyGo();
        numbersAsLongAsTheyGo();
        otherBytesFirst();
        otherBytesLater();
        aNinth();
        theFirstFault();
        heatWithout();
        toldTwice();
        Due.end();
    }

    /** "THE TAPE takes bytes, 200 at most" */
    private static void twoHundredAtMost() {
        for (int last = 1; last <= 8; last++) {
            WarmGossip x = new WarmGossip();
            Parishes.feed(x, " ".repeat(200 - last));
            Due.is("all but " + last, x.many(5), 200 - last);
            if (last < 8) {
                Due.is("one too many", x.feed(0x2020202020202020L, last + 1), FULL);
            }
            Due.is("none came", x.many(5), 200 - last);
            Due.is("just so many", x.feed(0x2020202020202020L, last), 200);
            for (int n = 1; n <= 8; n++) {
                Due.is("more than 200", x.feed(0x2020202020202020L, n), FULL);
            }
            Due.is("200", x.many(5), 200);
        }
    }

    /** "parish() uses it up" */
    private static void usedUp() {
        WarmGossip x = new WarmGossip();
        Parishes.feed(x, " ".repeat(200));
        Due.is("200 blanks", x.parish(), 0);
        Due.is("empty", x.many(5), 0);
        Due.is("the first again", x.feed('?', 1), 1);
        Due.is("its fault", x.parish(), -100);
        Due.is("empty", x.many(5), 0);
        Due.is("an empty tape", x.parish(), 0);
        Parishes.feed(x, "tale at 1;");
        x.parish();
        Due.is("nothing is told twice", x.parish(), 0);
        Due.is("no tales then", x.many(0), 0);
    }

    /** "n bytes .., the lowest of eight first": those above n count for nothing, the eighth is the highest. */
    private static void lowestFirst() {
        WarmGossip x = new WarmGossip();
        Due.is("one of eight", x.feed(-1L << 8 | 'b', 1), 1);
        Due.is("two of eight", x.feed(-1L << 16 | 'x' << 8 | 'o', 2), 3);
        Due.is("eight of eight", x.feed(0x20203b2020203520L, 8), 11);
        Due.is("told", x.parish(), 0);
        Due.is("its BOX", x.state(4), 32);
        x.feed(0xff20202020202020L, 8);
        Due.is("the highest comes last", x.parish(), -107);
        x.feed(0x80, 1);
        Due.is("a byte below 0", x.parish(), -100);
    }

    /** TEXT: "{ .. }" none at all. */
    private static void nothingTold() {
        WarmGossip x = new WarmGossip();
        x.tale(0, 50, 0);
        x.set(0, 9);
        Due.is("the empty text", x.parish(), 0);
        Due.is("no tales", x.many(0), 0);
        Due.is("AIR as at first", x.lawOf(0), 3);
        Due.is("blanks alone", Parishes.told("   "), 0);
    }

    private static void twoHundredTold() {
        String last = "box 7;";
        String text = "tale at 1;" + " ".repeat(200 - 10 - last.length()) + last;
        WarmGossip x = new WarmGossip();
        Due.is("200 bytes", Parishes.feed(x, text), 200);
        Due.is("are told", x.parish(), 1);
        Due.is("to the last", x.state(4), 128);
        Due.is("199 and no end", Parishes.told(text.substring(0, 199)), -299);
        Due.is("200 and no end", Parishes.told(" " + text.substring(0, 199)), -300);
        Due.is("a fault in the last", Parishes.told(text.substring(0, 199) + ":"), -299);
        Due.is("a NAME to the end", Parishes.told("x".repeat(200)), -100);
        Due.is("a NUMBER to the end", Parishes.told("box " + "1".repeat(196)), -104);
    }

    private static void number(String[] place, String number, boolean fits) {
        String text = place[0] + number + place[1];
        int told = Parishes.told(text);
        if (fits) {
            Due.holds(text + " is told", told >= 0);
        } else {
            Due.is(text, told, -100 - place[0].length());
        }
    }

    /** "(a NUMBER out of range ..)" */
    private static void theLeastAndTheGreatest() {
        for (String[] place : PLACES) {
            int greatest = Integer.parseInt(place[2]);
            number(place, "0", true);
            number(place, "" + greatest, true);
            number(place, "" + (greatest + 1), false);
            number(place, "255", false);
            number(place, "256", false);
            number(place, "999", false);
        }
        WarmGossip x = Parishes.withText("truth at 7 heat 99;tale at 0 heat 0;friend 7 is 0;friend 0 is 7;"
            + "taste 0 is 99;taste 7 is 0;box 0;box 7;air 9;spice 9;crust 99;meeting 99;");
        Due.is("AT 7", x.of(0, 2), 7);
        Due.is("HEAT 99", x.of(0, 1), 99);
        Due.is("AT 0", x.of(1, 2), 0);
        Due.is("HEAT 0", x.of(1, 1), 0);
        Due.is("friend of 7", x.houseOf(7, 0), 0);
        Due.is("friend of 0", x.houseOf(0, 0), 7);
        Due.is("taste of 0", x.houseOf(0, 1), 99);
        Due.is("taste of 7", x.houseOf(7, 1), 0);
        Due.is("boxes", x.state(4), 129);
        int[] top = {9, 9, 99, 99};
        for (int law = 0; law < 4; law++) {
            Due.is("law at its greatest", x.lawOf(law), top[law]);
        }
        x = Parishes.withText("air 0;spice 0;crust 0;meeting 0;");
        for (int law = 0; law < 4; law++) {
            Due.is("law at its least", x.lawOf(law), 0);
        }
    }

    /** "NUMBERS rows of digits (1 to 3)"; "(.. of more digits ..)" */
    private static void oneToThreeDigits() {
        for (String[] place : PLACES) {
            number(place, "00", true);
            number(place, "000", true);
            number(place, "007", true);
            number(place, "0000", false);
            number(place, "0007", false);
            number(place, "1000", false);
            number(place, "00000000000000000000000000000007", false);
            number(place, "4294967297", false);
        }
    }

    /** "the first byte of the first NAME, NUMBER or other byte that can't stand there" */
    private static void notANumber() {
        for (String[] place : PLACES) {
            number(place, ";", false);
            number(place, "heat", false);
            number(place, "a1", false);
            number(place, "-1", false);
            number(place, "+1", false);
            number(place, ".5", false);
        }
    }

    /** "or the end (how many bytes there are), if more must come" */
    private static void ofMoreMustCome() {
        for (String sentence : SENTENCES) {
            Due.holds(sentence + " is told", Parishes.told(sentence) >= 0);
            for (int end = sentence.indexOf(' '); end >= 0; end = sentence.indexOf(' ', end + 1)) {
                String cut = sentence.substring(0, end);
                Due.is("the end of " + cut, Parishes.told(cut), -100 - end);
                Due.is("the end behind a blank of " + cut, Parishes.told(cut + " "), -101 - end);
                Due.is("the end behind blanks of " + cut, Parishes.told(cut + "     "), -105 - end);
                Due.is("the end of the second " + cut, Parishes.told("box 1;" + cut), -106 - end);
            }
        }
    }

    /** Cut inside a NAME it is another NAME, cut inside a NUMBER another NUMBER. */
    private static void everyCut() {
        String text = "whisper at 3 heat 45;";
        int[] fault = {-1, 0, 0, 0, 0, 0, 0, 7, 8, 8, 10, 11, 12, 13, 13, 13, 13, 17, 18, 19, 20, -1};
        for (int end = 0; end <= text.length(); end++) {
            String cut = text.substring(0, end);
            int due = fault[end] < 0 ? end / text.length() : -100 - fault[end];
            Due.is("told: " + cut, Parishes.told(cut), due);
        }
    }

    /** "blanks (32) part them, and stand elsewhere as one likes" */
    private static void blanks() {
        for (String sentence : SENTENCES) {
            Due.holds("without blanks that part none", Parishes.told(sentence.replace(" ;", ";")) >= 0);
            Due.holds("with more", Parishes.told(sentence.replace(" ", "    ")) >= 0);
            Due.holds("before and behind", Parishes.told("   " + sentence + "   ") >= 0);
            Due.holds("twice without one between", Parishes.told(sentence + sentence) >= 0);
            Due.holds("twice with some", Parishes.told(" " + sentence + "  " + sentence) >= 0);
        }
        Due.is("inside a NAME", Parishes.told("bo x 1;"), -100);
        Due.is("inside a NUMBER", Parishes.told("taste 1 is 1 2;"), -113);
        for (char other : new char[] {'\t', '\n', '\r', '\f', 0, 160, 255, 31, 33}) {
            Due.is("not blank: " + (int) other, Parishes.told(other + "box 1;"), -100);
            Due.is("not blank: " + (int) other, Parishes.told("box" + other + "1;"), -103);
            Due.is("not blank: " + (int) other, Parishes.told("box 1" + other + ";"), -105);
            Due.is("not blank: " + (int) other, Parishes.told("box 1;" + other), -106);
        }
    }

    private static void blanksTwoHundred() {
        for (int n : new int[] {0, 1, 199, 200}) {
            Due.is(n + " blanks", Parishes.told(" ".repeat(n)), 0);
        }
        Due.is("the end behind 197 blanks", Parishes.told("box" + " ".repeat(197)), -300);
    }

    /** "NAMES are rows of letters a to z, .. as long as they go" */
    private static void namesAsLongAsTheyGo() {
        String[] names = {"tale", "news", "rumour", "scandal", "whisper", "truth", "friend", "taste", "box", "air",
            "spice", "crust", "meeting"};
        for (String name : names) {
            String last = name.substring(0, name.length() - 1);
            Due.is("one letter more than " + name, Parishes.told("box 1;" + name + "s 1;"), -106);
            Due.is("one letter less than " + name, Parishes.told("box 1;" + last + " 1;"), -106);
            Due.is("another first than " + name, Parishes.told("box 1;z" + name.substring(1) + " 1;"), -106);
            Due.is("another last than " + name, Parishes.told("box 1;" + last + "z 1;"), -106);
            Due.is("a capital first in " + name, Parishes.told("box 1;" + name.toUpperCase() + " 1;"), -106);
            Due.is("no blank behind " + name, Parishes.told("box 1;" + name + "at 1;"), -106);
            Due.is("no name but " + name, Parishes.told("box 1;" + name), -106 - name.length());
        }
        for (String name : new String[] {"at", "is", "heat", "z", "a", "house", "minute"}) {
            Due.is("no sentence begins by " + name, Parishes.told(name + " 1;"), -100);
        }
        Due.is("a capital behind", Parishes.told("boX 1;"), -100);
        Due.is("at, then a capital", Parishes.told("tale atT 1;"), -107);
        Due.is("att", Parishes.told("tale att 1;"), -105);
        Due.is("a", Parishes.told("tale a 1;"), -105);
        Due.is("iss", Parishes.told("friend 1 iss 1;"), -109);
        Due.is("i", Parishes.told("taste 1 i 1;"), -108);
        Due.is("heats", Parishes.told("tale at 1 heats 1;"), -110);
        Due.is("hea", Parishes.told("tale at 1 hea 1;"), -110);
    }

    /** "NUMBERS rows of digits .., both as long as they go" */
    private static void numbersAsLongAsTheyGo() {
        Due.is("a NUMBER, then a NAME", Parishes.told("tale at 1heat 5;"), 1);
        Due.is("a NAME, then a NUMBER", Parishes.told("tale at1 heat5;"), 1);
        Due.is("a NUMBER that is too long", Parishes.told("tale at 10000heat 5;"), -108);
        Due.is("the one before 0", Parishes.told("box /;"), -104);
        Due.is("the one behind 9", Parishes.told("box :;"), -104);
        Due.is("the one before a", Parishes.told("`box 1;"), -100);
        Due.is("the one behind z", Parishes.told("{box 1;"), -100);
        Due.is("digits 0 to 9", Parishes.withText("crust 90;").lawOf(2), 90);
        Due.is("letters a to z", Parishes.told("az 1;"), -100);
    }

    /** Each byte as the first of a text. */
    private static void otherBytesFirst() {
        for (int b = 0; b < 256; b++) {
            Due.is("byte " + b, Parishes.told("" + (char) b), b == 32 ? 0 : -100);
            Due.is("byte " + b + " behind a sentence", Parishes.told("box 1; " + (char) b), b == 32 ? 0 : -107);
        }
    }

    /** Each byte for the blank, and for the ; of "box 1;". */
    private static void otherBytesLater() {
        for (int b = 0; b < 256; b++) {
            char c = (char) b;
            boolean letter = c >= 'a' && c <= 'z';
            boolean digit = c >= '0' && c <= '9';
            int forBlank = c == ' ' || c == '0' ? 0 : letter ? -100 : -103;
            Due.is("byte " + b + " for the blank", Parishes.told("box" + c + "1;"), digit && c != '0' ? -103 : forBlank);
            int forEnd = c == ';' ? 0 : c == ' ' ? -106 : digit ? -104 : -105;
            Due.is("byte " + b + " for the ;", Parishes.told("box 1" + c), forEnd);
        }
    }

    /** "(.. the NAME of a ninth one)" */
    private static void aNinth() {
        String eight = "tale at 0;".repeat(8);
        Due.is("eight", Parishes.told(eight), 8);
        for (String kind : KINDS) {
            Due.is("a ninth " + kind, Parishes.told(eight + kind + " at 1;"), -180);
            Due.is("a ninth " + kind + ", cut", Parishes.told(eight + kind), -180);
            Due.is("a ninth " + kind + ", not as told", Parishes.told(eight + " " + kind + "!"), -181);
        }
        Due.is("another NAME behind eight", Parishes.told(eight + "tales at 1;"), -180);
        Due.is("a law behind eight", Parishes.told(eight + "air 1;"), 8);
        Due.is("a ninth behind a law", Parishes.told(eight + "air 1;news at 1;"), -186);
        Due.is("a fault before it", Parishes.told(eight + "air 10;news at 1;"), -184);
    }

    /** "the first NAME, NUMBER or other byte": of two faults that which comes first. */
    private static void theFirstFault() {
        Due.is("a house, then a heat", Parishes.told("tale at 8 heat 100;"), -108);
        Due.is("a heat, then no ;", Parishes.told("tale at 7 heat 100"), -115);
        Due.is("a house, then no is", Parishes.told("friend 8 at 9;"), -107);
        Due.is("no is, then a taste", Parishes.told("taste 7 at 100;"), -108);
        Due.is("a box, then no end", Parishes.told("box 8"), -104);
        Due.is("the first sentence", Parishes.told("air 10;air 11;"), -104);
        Due.is("a number too long and too great", Parishes.told("air 9999;"), -104);
    }

    /** "HEAT (50 without)" */
    private static void heatWithout() {
        for (String kind : KINDS) {
            Due.is("without", Parishes.withText(kind + " at 4;").of(0, 1), 50);
            Due.is("with 0", Parishes.withText(kind + " at 4 heat 0;").of(0, 1), 0);
            Due.is("with 50", Parishes.withText(kind + " at 4 heat 50;").of(0, 1), 50);
        }
        WarmGossip x = Parishes.withText("tale at 1 heat 7;tale at 2;");
        Due.is("without, behind one with", x.of(1, 1), 50);
    }

    private static void toldTwice() {
        WarmGossip x = Parishes.withText("air 5;air 6;box 2;box 2;friend 1 is 3;friend 1 is 4;taste 1 is 3;taste 1 is 0;");
        Due.is("the latest AIR", x.lawOf(0), 6);
        Due.is("one BOX", x.many(3), 1);
        Due.is("the latest friend", x.houseOf(1, 0), 4);
        Due.is("the latest taste", x.houseOf(1, 1), 0);
    }
}
