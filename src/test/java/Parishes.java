import java.nio.charset.StandardCharsets;

/** What several tests do to a parish. */
final class Parishes {
    private Parishes() {
    }

    /** Feeds a text in pieces of 8 bytes; the answer of the last call. */
    static int feed(WarmGossip x, String text) {
        byte[] bytes = text.getBytes(StandardCharsets.ISO_8859_1);
        int answer = 0;
        for (int from = 0; from < bytes.length; from += 8) {
            int n = Math.min(8, bytes.length - from);
            long eight = 0;
            for (int i = n - 1; i >= 0; i--) {
                eight = eight << 8 | bytes[from + i] & 255;
            }
            answer = x.feed(eight, n);
        }
        return answer;
    }

    /** What parish() answers to a text on a new object. */
    static int told(String text) {
        WarmGossip x = new WarmGossip();
        feed(x, text);
        return x.parish();
    }

    static WarmGossip withText(String text) {
        WarmGossip x = new WarmGossip();
        feed(x, text);
        Due.holds(text + " is told without a fault", x.parish() >= 0);
        return x;
    }

    /** All that can be seen without changing it, as one text. */
    static String seen(WarmGossip x) {
        StringBuilder s = new StringBuilder();
        for (int what = 0; what <= 6; what++) {
            s.append(x.many(what)).append(' ').append(x.state(what)).append(' ');
        }
        for (int i = 0; i < 8; i++) {
            for (int what = 0; what <= 5; what++) {
                s.append(x.of(i, what)).append(' ').append(x.houseOf(i, what)).append(' ');
            }
        }
        for (int i = 0; i < 4; i++) {
            s.append(x.lawOf(i)).append(' ');
            for (int as = 0; as <= 13; as++) {
                s.append(x.taken(i, as)).append(' ');
            }
            for (int k = 0; k <= 160; k++) {
                s.append(x.item(i, k % 4, k / 4)).append(' ');
            }
        }
        for (int i = 0; i < 30; i++) {
            s.append(x.row(i / 3, i % 3)).append(' ').append(x.trace(i)).append(' ');
        }
        int z = x.seed(0);
        x.seed(z);
        return s.append(z).toString();
    }
}
