import java.nio.charset.StandardCharsets;

/** What several tests do to a parish. An object answers 512 calls as promised, so what is read here is kept short. */
final class Parishes {
    private static final int MISSING = -11, OTHER_SORT = -13, OUTSIDE = -12;

    private Parishes() {
    }

    /** Feeds a text in pieces of 8 bytes; the answer of the last call. */
    static int feed(WarmGossip x, String text) {
        byte[] bytes = text.getBytes(StandardCharsets.ISO_8859_1);
        int answer = 0;
        for (int from = 0; from < bytes.length; from += 8) {
            int n = Math.min(8, bytes.length - from);
            long eight = 0;
            for (int i = n - 1; i >= 0; i--) {
                eight = eight << 8 | bytes[from + i] & 255;
            }
            answer = x.feed(eight, n);
        }
        return answer;
    }

    /** What parish() answers to a text on a new object. */
    static int told(String text) {
        WarmGossip x = new WarmGossip();
        feed(x, text);
        return x.parish();
    }

    static WarmGossip withText(String text) {
        WarmGossip x = new WarmGossip();
        feed(x, text);
        Due.holds(text + " is told without a fault", x.parish() >= 0);
        return x;
    }

    /** Something of all, and a text on THE TAPE. */
    static WarmGossip some() {
        WarmGossip x = untaped();
        feed(x, "tale at 3;box 5;");
        return x;
    }

    /**
     * Something of all but THE TAPE: three TALES, HOUSES that differ, something else kept, four ROWS, SHEETS 0
     * (bytes), 1 (shorts), 3 (longs, of no items), SHELVES with a tale, a row, nothing, a tale; a TRACE of two.
     */
    static WarmGossip untaped() {
        WarmGossip x = withText("news at 6 heat 12;box 1;meeting 3;");
        x.keep();
        feed(x, "rumour at 2 heat 30;truth at 5 heat 60;whisper at 0 heat 44;friend 1 is 4;taste 3 is 20;box 6;air 1;");
        x.parish();
        x.minutes(2);
        x.seed(99);
        x.prove(1, 4);
        x.sheet(0, 0, 3);
        x.put(0, 0, 7);
        x.put(0, 1, 90);
        x.sheet(1, 1, 2);
        x.put(1, 1, 300);
        x.sheet(3, 3, 0);
        x.shelf(0, 0, 1);
        x.shelf(1, 1, 0);
        x.shelf(3, 0, 2);
        x.act(0, 1, 5);
        return x;
    }

    /** All that can be seen without changing it, as one text: up to 150 calls, and one an item. */
    static String seen(WarmGossip x) {
        StringBuilder s = new StringBuilder();
        seeParish(x, s);
        seeThings(x, s);
        return s.toString();
    }

    /** All there is, as one text, with what THE TAPE tells and what is kept; the object is used up by it. */
    static String all(WarmGossip x) {
        StringBuilder s = new StringBuilder(seen(x));
        s.append("told ").append(x.parish()).append(' ');
        seeParish(x, s);
        s.append("kept ").append(x.again()).append(' ');
        seeParish(x, s);
        return s.toString();
    }

    private static void seeParish(WarmGossip x, StringBuilder s) {
        for (int law = 0; law < 4; law++) {
            s.append(x.lawOf(law)).append(' ');
        }
        for (int h = 0; h < 8; h++) {
            for (int what = 0; what <= 2; what++) {
                s.append(x.houseOf(h, what)).append(' ');
            }
        }
        int tales = x.many(0);
        for (int i = 0; i < tales; i++) {
            for (int what = 0; what <= 3; what++) {
                s.append(x.of(i, what)).append(' ');
            }
        }
        int z = x.seed(0);
        x.seed(z);
        s.append(x.state(0)).append(' ').append(z).append(' ');
    }

    private static void seeThings(WarmGossip x, StringBuilder s) {
        int rows = x.many(4);
        for (int i = 0; i < 3 * rows; i++) {
            s.append(x.row(i / 3, i % 3)).append(' ');
        }
        int bodies = x.many(6);
        for (int i = 0; i < bodies; i++) {
            s.append(x.trace(i)).append(' ');
        }
        s.append(x.many(5)).append(' ');
        for (int i = 0; i < 4; i++) {
            s.append(x.taken(i, 0)).append(' ');
            for (int as = 10; as <= 13; as++) {
                s.append(x.taken(i, as)).append(' ');
            }
            seeSheet(x, i, s);
        }
    }

    private static void seeSheet(WarmGossip x, int sheet, StringBuilder s) {
        int sort = 0;
        while (sort < 3 && x.item(sheet, sort, 0) == OTHER_SORT) {
            sort++;
        }
        s.append("sort ").append(sort).append(' ');
        int item = x.item(sheet, sort, 0);
        for (int i = 1; item != MISSING && item != OUTSIDE; i++) {
            s.append(item).append(' ');
            item = x.item(sheet, sort, i);
        }
        s.append(item).append(' ');
    }
}
