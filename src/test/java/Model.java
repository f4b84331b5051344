import java.util.ArrayList;
import java.util.Arrays;
import java.util.List;
import java.util.function.Predicate;
import java.util.regex.Matcher;
import java.util.regex.Pattern;

/** The document once more, by other means: things as classes, TEXT by patterns, tries on whole copies. */
final class Model {
    private static final String[] KINDS = {"tale", "news", "rumour", "scandal", "whisper", "truth"};

    private State s = new State();
    private State kept;
    private final List<Byte> tape = new ArrayList<>();
    private List<int[]> rows = new ArrayList<>();
    private final Object[] sheets = new Object[4];
    private final Object[] shelves = new Object[4];
    private final List<Integer> trace = new ArrayList<>();

    // ---- the state and its minutes

    private static final class Gossip {
        int kind;
        int heat;
        int at;
        boolean[] heard = new boolean[8];

        Gossip copy() {
            Gossip g = new Gossip();
            g.kind = kind;
            g.heat = heat;
            g.at = at;
            g.heard = heard.clone();
            return g;
        }

        int hearers() {
            int n = 0;
            for (boolean h : heard) {
                n += h ? 1 : 0;
            }
            return n;
        }

        int heardSet() {
            int set = 0;
            for (int h = 0; h < 8; h++) {
                set += heard[h] ? 1 << h : 0;
            }
            return set;
        }

        void goTo(int house) {
            at = house;
            heard[house] = true;
        }
    }

    private static final class State {
        int[] law = {3, 2, 0, 20};
        int[] friend = {1, 2, 3, 4, 5, 6, 7, 0};
        int[] taste = {1, 1, 1, 1, 1, 1, 1, 1};
        boolean[] box = new boolean[8];
        List<Gossip> tales = new ArrayList<>();
        int minute;
        int z = 1;

        State copy() {
            State c = new State();
            c.law = law.clone();
            c.friend = friend.clone();
            c.taste = taste.clone();
            c.box = box.clone();
            for (Gossip g : tales) {
                c.tales.add(g.copy());
            }
            c.minute = minute;
            c.z = z;
            return c;
        }

        int cools(Gossip g) {
            switch (KINDS[g.kind]) {
                case "tale": return law[0];
                case "news": return law[0] - 1;
                case "rumour": return law[0] + law[0];
                case "scandal": return law[0] - 1 - law[1];
                case "whisper": return law[0] + law[0] + g.hearers();
                default: return g.heat > law[2] ? -1 : law[0];
            }
        }

        int doors(Gossip g) {
            switch (KINDS[g.kind]) {
                case "rumour": case "scandal": return 2;
                case "whisper": return minute % 2 == 1 ? 1 : 2;
                case "truth": return minute % 3 == 0 ? 1 : 0;
                default: return 1;
            }
        }

        void go() {
            for (Gossip g : tales) {
                for (int left = doors(g); left > 0 && g.heat >= taste[friend[g.at]]; left--) {
                    g.goTo(friend[g.at]);
                }
                int less = cools(g);
                if (box[g.at]) {
                    less /= 2;
                }
                g.heat = Math.min(99, Math.max(0, g.heat - less));
            }
            minute++;
        }

        State behind(int n) {
            State c = copy();
            for (int i = 0; i < n; i++) {
                c.go();
            }
            return c;
        }

        int draw() {
            z = (int) (z * 1103515245L + 12345L);
            return (int) ((z & 0xFFFFFFFFL) / 65536);
        }

        void goByDraws() {
            if (!tales.isEmpty()) {
                Gossip g = tales.get(draw() % tales.size());
                if (draw() % 100 < law[3]) {
                    g.goTo(draw() % 8);
                }
            }
            go();
        }

        int heats() {
            int sum = 0;
            for (Gossip g : tales) {
                sum += g.heat;
            }
            return sum;
        }

        int hearers() {
            int sum = 0;
            for (Gossip g : tales) {
                sum += g.hearers();
            }
            return sum;
        }

        int set(Predicate<Gossip> which) {
            int set = 0;
            for (int i = 0; i < tales.size(); i++) {
                set |= which.test(tales.get(i)) ? 1 << i : 0;
            }
            return set;
        }

        int boxes() {
            int set = 0;
            for (int h = 0; h < 8; h++) {
                set |= box[h] ? 1 << h : 0;
            }
            return set;
        }

        int places() {
            int set = 0;
            for (Gossip g : tales) {
                set |= 1 << g.at;
            }
            return set;
        }
    }

    private static boolean in(long v, long least, long most) {
        return least <= v && v <= most;
    }

    private boolean isTale(int tale) {
        return in(tale, 0, s.tales.size() - 1);
    }

    private static boolean isHouse(int house) {
        return in(house, 0, 7);
    }

    // ---- promises 2 to 18

    int feed(long eight, int n) {
        if (!in(n, 1, 8)) {
            return -1;
        }
        if (tape.size() + n > 200) {
            return -2;
        }
        long rest = eight;
        for (int i = 0; i < n; i++) {
            tape.add((byte) rest);
            rest >>= 8;
        }
        return tape.size();
    }

    int parish() {
        char[] signs = new char[tape.size()];
        for (int i = 0; i < signs.length; i++) {
            signs[i] = (char) (tape.get(i) & 255);
        }
        tape.clear();
        State told = new State();
        told.z = s.z;
        int fault = new Text(new String(signs)).tell(told);
        if (fault >= 0) {
            return -100 - fault;
        }
        s = told;
        rows = new ArrayList<>();
        return s.tales.size();
    }

    /** Sentences are words: H a house, T 0 to 99, L 0 to 9; what stands in brackets may be missing. */
    private static final class Text {
        private static final String[] SENTENCES = {"friend H is H ;", "taste H is T ;", "box H ;",
            "air L ;", "spice L ;", "crust T ;", "meeting T ;"};
        private final List<String> words = new ArrayList<>();
        private final List<Integer> places = new ArrayList<>();
        private int next;

        Text(String text) {
            Matcher m = Pattern.compile("[a-z]+|[0-9]+|[^ ]", Pattern.DOTALL).matcher(text);
            while (m.find()) {
                words.add(m.group());
                places.add(m.start());
            }
            words.add("");
            places.add(text.length());
        }

        int tell(State told) {
            while (next < words.size() - 1) {
                String first = words.get(next);
                int kind = Arrays.asList(KINDS).indexOf(first);
                String pattern = kind >= 0 && told.tales.size() < 8 ? first + " at H ;" : null;
                for (String sentence : SENTENCES) {
                    pattern = sentence.startsWith(first + " ") ? sentence : pattern;
                }
                if (kind >= 0 && next + 3 < words.size() && words.get(next + 3).equals("heat")) {
                    pattern = pattern == null ? null : first + " at H heat T ;";
                }
                List<Integer> numbers = new ArrayList<>();
                if (pattern == null || !follows(pattern, numbers)) {
                    return places.get(next);
                }
                apply(told, first, kind, numbers);
            }
            return -1;
        }

        private boolean follows(String pattern, List<Integer> numbers) {
            for (String due : pattern.split(" ")) {
                String word = words.get(next);
                int top = due.equals("H") ? 7 : due.equals("L") ? 9 : 99;
                if (due.length() == 1 && !due.equals(";")) {
                    if (!word.matches("[0-9]{1,3}") || Integer.parseInt(word) > top) {
                        return false;
                    }
                    numbers.add(Integer.parseInt(word));
                } else if (!word.equals(due)) {
                    return false;
                }
                next++;
            }
            return true;
        }

        private static void apply(State told, String first, int kind, List<Integer> n) {
            if (kind >= 0) {
                Gossip g = new Gossip();
                g.kind = kind;
                g.heat = n.size() > 1 ? n.get(1) : 50;
                g.goTo(n.get(0));
                told.tales.add(g);
                return;
            }
            switch (first) {
                case "friend": told.friend[n.get(0)] = n.get(1); break;
                case "taste": told.taste[n.get(0)] = n.get(1); break;
                case "box": told.box[n.get(0)] = true; break;
                default: told.law[Arrays.asList("air", "spice", "crust", "meeting").indexOf(first)] = n.get(0);
            }
        }
    }

    int set(int law, int v) {
        if (!in(law, 0, 3) || !in(v, 0, law < 2 ? 9 : 99)) {
            return -1;
        }
        int was = s.law[law];
        s.law[law] = v;
        return was;
    }

    int lawOf(int law) {
        return in(law, 0, 3) ? s.law[law] : -1;
    }

    int tale(int kind, int heat, int house) {
        if (!in(kind, 0, 5) || !in(heat, 0, 99) || !isHouse(house)) {
            return -1;
        }
        if (s.tales.size() == 8) {
            return -2;
        }
        Gossip g = new Gossip();
        g.kind = kind;
        g.heat = heat;
        g.goTo(house);
        s.tales.add(g);
        return s.tales.size() - 1;
    }

    int of(int tale, int what) {
        if (!isTale(tale) || !in(what, 0, 3)) {
            return -1;
        }
        Gossip g = s.tales.get(tale);
        return new int[] {g.kind, g.heat, g.at, g.heardSet()}[what];
    }

    int does(int tale, int what) {
        if (!isTale(tale) || !in(what, 0, 1)) {
            return -1;
        }
        return 1000 + (what == 0 ? s.cools(s.tales.get(tale)) : s.doors(s.tales.get(tale)));
    }

    int mind(int tale, int kind) {
        if (!isTale(tale) || !in(kind, 0, 5)) {
            return -1;
        }
        int was = s.tales.get(tale).kind;
        s.tales.get(tale).kind = kind;
        return was;
    }

    int warm(int tale, int v) {
        if (!isTale(tale) || !in(v, 0, 99)) {
            return -1;
        }
        int was = s.tales.get(tale).heat;
        s.tales.get(tale).heat = v;
        return was;
    }

    int carry(int tale, int house) {
        if (!isTale(tale) || !isHouse(house)) {
            return -1;
        }
        int was = s.tales.get(tale).at;
        s.tales.get(tale).goTo(house);
        return was;
    }

    int house(int house, int what, int v) {
        if (!isHouse(house) || !in(what, 0, 2) || !in(v, 0, new int[] {7, 99, 1}[what])) {
            return -1;
        }
        int was = houseOf(house, what);
        if (what == 0) {
            s.friend[house] = v;
        } else if (what == 1) {
            s.taste[house] = v;
        } else {
            s.box[house] = v == 1;
        }
        return was;
    }

    int houseOf(int house, int what) {
        if (!isHouse(house) || !in(what, 0, 5)) {
            return -1;
        }
        int loop = 0;
        for (int h = house; (loop & 1 << h) == 0; h = s.friend[h]) {
            loop |= 1 << h;
        }
        return new int[] {s.friend[house], s.taste[house], s.box[house] ? 1 : 0,
            s.set(g -> g.at == house), loop, s.set(g -> g.heard[house])}[what];
    }

    int minutes(int n) {
        if (!in(n, 1, 60)) {
            return -1;
        }
        s = s.behind(n);
        return s.heats();
    }

    int seed(int v) {
        int was = s.z;
        s.z = v;
        return was;
    }

    int minute() {
        s.goByDraws();
        return s.heats();
    }

    int spread(int n) {
        if (!in(n, 1, 30)) {
            return -1;
        }
        int plain = s.behind(1).hearers();
        int more = 0;
        int z = s.z;
        for (int i = 0; i < n; i++) {
            State c = s.copy();
            c.z = z;
            c.goByDraws();
            z = c.z;
            more += c.hearers() > plain ? 1 : 0;
        }
        return more;
    }

    int state(int what) {
        if (!in(what, 0, 5)) {
            return -1;
        }
        return new int[] {s.minute, s.heats(), s.hearers(), s.places(), s.boxes(), s.set(g -> g.heat == 0)}[what];
    }

    // ---- promises 19 to 30

    private Gossip behind(int tale, int n) {
        return s.behind(n).tales.get(tale);
    }

    private int fewest(int tale, int from, int to, Predicate<Gossip> so) {
        for (int n = from; n <= to; n++) {
            if (so.test(behind(tale, n))) {
                return n;
            }
        }
        return -3;
    }

    int where(int tale, int n) {
        return isTale(tale) && in(n, 0, 60) ? behind(tale, n).at : -1;
    }

    int comes(int tale, int house) {
        return isTale(tale) && isHouse(house) ? fewest(tale, 0, 60, g -> g.heard[house]) : -1;
    }

    int cold(int tale) {
        return isTale(tale) ? fewest(tale, 0, 60, g -> g.heat == 0) : -1;
    }

    int whole(int tale) {
        return isTale(tale) ? fewest(tale, 0, 60, g -> g.hearers() == 8) : -1;
    }

    int home(int tale) {
        return isTale(tale) ? fewest(tale, 1, 60, g -> g.at == s.tales.get(tale).at && g.heat > 0) : -1;
    }

    int reach(int tale, int n) {
        return isTale(tale) && in(n, 0, 60) ? behind(tale, n).hearers() : -1;
    }

    int friendFor(int house, int tale, int n) {
        if (!isHouse(house) || !isTale(tale) || !in(n, 1, 30)) {
            return -1;
        }
        int[] reached = new int[8];
        int was = s.friend[house];
        for (int f = 0; f < 8; f++) {
            s.friend[house] = f;
            reached[f] = behind(tale, n).hearers();
        }
        s.friend[house] = was;
        return firstGreatest(reached);
    }

    private static int firstGreatest(int[] of) {
        int[] sorted = of.clone();
        Arrays.sort(sorted);
        for (int i = 0; i < of.length; i++) {
            if (of[i] == sorted[of.length - 1]) {
                return i;
            }
        }
        return -1;
    }

    int boxFor(int tale, int n) {
        if (!isTale(tale) || !in(n, 1, 30)) {
            return -1;
        }
        int[] heat = new int[9];
        heat[0] = behind(tale, n).heat;
        for (int h = 0; h < 8; h++) {
            boolean was = s.box[h];
            s.box[h] = true;
            heat[h + 1] = was ? -1 : behind(tale, n).heat;
            s.box[h] = was;
        }
        int best = firstGreatest(heat);
        return best == 0 ? -3 : best - 1;
    }

    int kindFor(int tale, int n) {
        if (!isTale(tale) || !in(n, 1, 30)) {
            return -1;
        }
        int[] reached = new int[6];
        int was = s.tales.get(tale).kind;
        for (int k = 0; k < 6; k++) {
            s.tales.get(tale).kind = k;
            reached[k] = behind(tale, n).hearers();
        }
        s.tales.get(tale).kind = was;
        return firstGreatest(reached);
    }

    int heatFor(int tale, int house, int n) {
        if (!isTale(tale) || !isHouse(house) || !in(n, 0, 30)) {
            return -1;
        }
        int was = s.tales.get(tale).heat;
        int least = -3;
        for (int heat = 99; heat >= 0; heat--) {
            s.tales.get(tale).heat = heat;
            least = behind(tale, n).heard[house] ? heat : least;
        }
        s.tales.get(tale).heat = was;
        return least;
    }

    int keptFor(int tale, int n, int v) {
        if (!isTale(tale) || !in(n, 1, 20) || !in(v, 0, 99)) {
            return -1;
        }
        boolean[] were = s.box;
        int best = -3;
        for (int set = 255; set >= 0; set--) {
            s.box = new boolean[8];
            for (int h = 0; h < 8; h++) {
                s.box[h] = (set & 1 << h) != 0;
            }
            if (behind(tale, n).heat >= v && (best == -3 || Integer.bitCount(set) <= Integer.bitCount(best))) {
                best = set;
            }
        }
        s.box = were;
        return best;
    }

    int fits(int sheet, int tale, int what) {
        if (!in(sheet, 0, 3) || !isTale(tale) || !in(what, 0, 1)) {
            return -1;
        }
        if (sheets[sheet] == null) {
            return -11;
        }
        Gossip g = s.tales.get(tale);
        int was = g.heat;
        List<Integer> fit = new ArrayList<>();
        for (int heat = 0; heat <= 99; heat++) {
            g.heat = heat;
            State c = s.copy();
            boolean all = true;
            for (int i = 0; i < length(sheets[sheet]); i++) {
                c.go();
                long told = itemOf(sheets[sheet], i);
                all &= told == -1 || told == c.tales.get(tale).at;
            }
            if (all) {
                fit.add(heat);
            }
        }
        g.heat = was;
        return what == 0 ? fit.size() : fit.isEmpty() ? -3 : fit.get(0);
    }

    // ---- promises 31 to 36

    long odds(int n, int k, int part) {
        if (!in(n, 0, 8) || !in(k, 0, n) || !in(part, 0, 1)) {
            return -1;
        }
        long[] ways = new long[n + 1];
        ways[0] = 1;
        for (int run = 0; run < n; run++) {
            for (int met = n; met >= 0; met--) {
                ways[met] = ways[met] * (100 - s.law[3]) + (met > 0 ? ways[met - 1] * s.law[3] : 0);
            }
        }
        long below = 1;
        for (int run = 0; run < n; run++) {
            below *= 100;
        }
        return lowest(ways[k], below)[part];
    }

    /** The divisors of below are those of 100 alone: 2 and 5. */
    private static long[] lowest(long above, long below) {
        if (above == 0) {
            return new long[] {0, 1};
        }
        long[] f = {above, below};
        for (int prime : new int[] {2, 5}) {
            while (f[0] % prime == 0 && f[1] % prime == 0) {
                f[0] /= prime;
                f[1] /= prime;
            }
        }
        return f;
    }

    long hope(int n, int part) {
        return in(n, 0, 99) && in(part, 0, 1) ? lowest((long) n * s.law[3], 100)[part] : -1;
    }

    int prove(int tale, int n) {
        if (!isTale(tale) || !in(n, 1, 10)) {
            return -1;
        }
        rows = rowsOf(tale, n);
        return n;
    }

    private List<int[]> rowsOf(int tale, int n) {
        List<int[]> all = new ArrayList<>();
        for (int i = 1; i <= n; i++) {
            Gossip g = behind(tale, i);
            all.add(new int[] {g.at, g.heat, g.heardSet()});
        }
        return all;
    }

    int row(int i, int what) {
        return in(i, 0, rows.size() - 1) && in(what, 0, 2) ? rows.get(i)[what] : -9;
    }

    int alterRow(int i, int what, int v) {
        int was = row(i, what);
        if (in(i, 0, rows.size() - 1) && in(what, 0, 2)) {
            rows.get(i)[what] = v;
        }
        return was;
    }

    int judge(int tale) {
        if (!isTale(tale)) {
            return -1;
        }
        List<int[]> right = rowsOf(tale, rows.size());
        for (int i = 0; i < rows.size(); i++) {
            if (!Arrays.equals(right.get(i), rows.get(i))) {
                return i + 1;
            }
        }
        return 0;
    }

    // ---- promises 37 to 42

    private static int sortOf(Object row) {
        return row instanceof byte[] ? 0 : row instanceof short[] ? 1 : row instanceof int[] ? 2 : 3;
    }

    private static int length(Object row) {
        return java.lang.reflect.Array.getLength(row);
    }

    private static long itemOf(Object row, int i) {
        return java.lang.reflect.Array.getLong(row, i);
    }

    int minds(int sheet, int i, int tale, int n) {
        if (!in(sheet, 0, 3) || !isTale(tale) || !in(n, 0, 8) || tale + n > s.tales.size()) {
            return -1;
        }
        if (sheets[sheet] == null) {
            return -11;
        }
        if (sortOf(sheets[sheet]) != 0) {
            return -13;
        }
        if (!in(i, 0, length(sheets[sheet])) || !in((long) i + n, 0, length(sheets[sheet]))) {
            return -12;
        }
        for (int step = 0; step < n; step++) {
            long v = itemOf(sheets[sheet], i + step);
            s.tales.get(tale + step).heat = (int) (v < 0 ? 0 : v > 99 ? 99 : v);
        }
        return n;
    }

    int sheet(int sheet, int sort, int n) {
        if (!in(sheet, 0, 3) || !in(sort, -1, 3)) {
            return -1;
        }
        if (sort == -1) {
            sheets[sheet] = null;
            return 1;
        }
        if (n < 0 || n > 40) {
            return n < 0 ? -14 : -1;
        }
        sheets[sheet] = sort == 0 ? new byte[n] : sort == 1 ? new short[n] : sort == 2 ? new int[n] : new long[n];
        return 1;
    }

    int put(int sheet, int i, int v) {
        if (!in(sheet, 0, 3)) {
            return -1;
        }
        Object row = sheets[sheet];
        if (row == null) {
            return -11;
        }
        if (!in(i, 0, length(row) - 1)) {
            return -12;
        }
        if (row instanceof byte[]) {
            ((byte[]) row)[i] = (byte) v;
        } else if (row instanceof short[]) {
            ((short[]) row)[i] = (short) v;
        } else if (row instanceof int[]) {
            ((int[]) row)[i] = v;
        } else {
            ((long[]) row)[i] = v;
        }
        return 1;
    }

    int item(int sheet, int sort, int i) {
        if (!in(sheet, 0, 3) || !in(sort, 0, 3)) {
            return -1;
        }
        if (sheets[sheet] == null) {
            return -11;
        }
        if (sortOf(sheets[sheet]) != sort) {
            return -13;
        }
        return in(i, 0, length(sheets[sheet]) - 1) ? (int) itemOf(sheets[sheet], i) : -12;
    }

    int shelf(int shelf, int what, int n) {
        boolean thing = what == 0 && isTale(n) || what == 1 && in(n, 0, 3) || what == 2;
        if (!in(shelf, 0, 3) || !thing) {
            return -1;
        }
        shelves[shelf] = what == 0 ? (Object) n : what == 1 ? sheets[n] : null;
        return 1;
    }

    private Object held(int shelf) {
        Object held = shelves[shelf];
        if (held instanceof Integer) {
            int n = (Integer) held;
            return isTale(n) ? thing(s.tales.get(n).kind, n, s.tales.get(n).at) : null;
        }
        return held;
    }

    int taken(int shelf, int as) {
        if (!in(shelf, 0, 3) || !in(as, 0, 5) && !in(as, 10, 13)) {
            return -1;
        }
        Object held = held(shelf);
        if (held == null) {
            return -11;
        }
        if (!(held instanceof Thing)) {
            return as - 10 == sortOf(held) ? length(held) : -13;
        }
        return as < 6 && thing(as, 0, 0).getClass().isInstance(held) ? ((Thing) held).n : -13;
    }

    // ---- promises 43 and 44

    private static final class Parted extends RuntimeException {
        private static final long serialVersionUID = 1;
    }

    private class Thing {
        int n;
        int a;

        int steams(int x) {
            trace.add(10);
            return x * 2 - n;
        }

        int smells(int x) {
            trace.add(11);
            return steams(x) + a * 4;
        }

        int parts(int x) {
            trace.add(12);
            if (a == n) {
                throw new Parted();
            }
            return x / (a - n);
        }

        int burns(int x) {
            trace.add(13);
            return smells(x) ^ 160;
        }
    }

    private class News extends Thing {
        @Override
        int smells(int x) {
            trace.add(20);
            return super.smells(x) - 1;
        }
    }

    private class Rumour extends Thing {
        @Override
        int steams(int x) {
            trace.add(30);
            return 0 - super.steams(x);
        }

        @Override
        int burns(int x) {
            trace.add(31);
            return super.burns(x) + parts(n);
        }
    }

    private final class Whisper extends Rumour {
        @Override
        int steams(int x) {
            trace.add(40);
            return super.steams(x) * 3;
        }

        @Override
        int smells(int x) {
            trace.add(41);
            return super.smells(x) ^ steams(a);
        }
    }

    private final class Scandal extends News {
        @Override
        int parts(int x) {
            trace.add(50);
            return super.parts(x + 8) - n;
        }

        @Override
        int steams(int x) {
            trace.add(51);
            return super.steams(x) + a;
        }
    }

    private final class Truth extends Thing {
        @Override
        int burns(int x) {
            trace.add(60);
            return super.burns(x) - 6;
        }

        @Override
        int parts(int x) {
            trace.add(61);
            return super.parts(x) * steams(n);
        }
    }

    private Thing thing(int kind, int n, int a) {
        Thing[] each = {new Thing(), new News(), new Rumour(), new Scandal(), new Whisper(), new Truth()};
        each[kind].n = n;
        each[kind].a = a;
        return each[kind];
    }

    int act(int shelf, int act, int x) {
        trace.clear();
        if (!in(shelf, 0, 3) || !in(act, 0, 3) || !(held(shelf) instanceof Thing)) {
            return 0;
        }
        Thing t = (Thing) held(shelf);
        try {
            return act == 0 ? t.steams(x) : act == 1 ? t.smells(x) : act == 2 ? t.parts(x) : t.burns(x);
        } catch (Parted e) {
            return -15;
        }
    }

    int trace(int i) {
        return in(i, 0, Math.min(30, trace.size()) - 1) ? trace.get(i) : -3;
    }

    // ---- promises 45 to 47

    int many(int what) {
        if (!in(what, 0, 6)) {
            return -1;
        }
        return new int[] {s.tales.size(), Integer.bitCount(s.set(g -> g.heat > 0)), Integer.bitCount(s.places()),
            Integer.bitCount(s.boxes()), rows.size(), tape.size(), Math.min(30, trace.size())}[what];
    }

    int keep() {
        kept = s.copy();
        return 1;
    }

    int again() {
        if (kept == null) {
            return -3;
        }
        s = kept.copy();
        return s.tales.size();
    }
}
