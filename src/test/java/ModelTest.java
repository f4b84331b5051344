import java.lang.reflect.Method;
import java.lang.reflect.Modifier;
import java.util.ArrayList;
import java.util.Comparator;
import java.util.List;
import java.util.Random;

/** All promises: runs of calls drawn by fixed seeds, each answered by the class and by the model. */
public final class ModelTest {
    private static final int RUNS = 1500, CALLS = 512;
    private static final int[] EDGES = {Integer.MIN_VALUE, Integer.MIN_VALUE + 1, -2, -1, 60, 61, 98, 99, 100, 255,
        Integer.MAX_VALUE - 7, Integer.MAX_VALUE};
    private static final String[] WORDS = {"tale", "news", "rumour", "scandal", "whisper", "truth", "friend", "taste",
        "box", "air", "spice", "crust", "meeting", "at", "heat", "is", ";", " ", "0", "3", "7", "8", "10", "99", "100",
        "0012", "A", "-", "heatt", "\u00ff"};
    private static final String[] SENTENCES = {"tale at 3;", "news at 5 heat 77;", "rumour  at 1 heat 6 ;",
        "scandal at 0;", "whisper at 7 heat 99;", "truth at 2 heat 40;", "friend 3 is 6;", "taste 4 is 30;", " box 2;",
        "air 2;", "spice 9;", "crust 45;", "meeting 70;"};

    private ModelTest() {
    }

    public static void main(String[] args) throws ReflectiveOperationException {
        List<Method> calls = publicCalls();
        Due.is("how many methods", calls.size(), 46);
        for (int run = 0; run < RUNS; run++) {
            compare(run, calls, new Random(run));
        }
        Due.end();
    }

    private static List<Method> publicCalls() {
        List<Method> calls = new ArrayList<>();
        for (Method m : WarmGossip.class.getDeclaredMethods()) {
            if (Modifier.isPublic(m.getModifiers())) {
                calls.add(m);
            }
        }
        calls.sort(Comparator.comparing(Method::getName));
        return calls;
    }

    private static void compare(int run, List<Method> calls, Random random) throws ReflectiveOperationException {
        WarmGossip x = new WarmGossip();
        Model model = new Model();
        int wild = random.nextInt(30);
        int left = CALLS;
        for (; left > CALLS - 10; left--) {
            Object[] args = {random.nextInt(6), random.nextInt(100), random.nextInt(8)};
            both(run, call("tale", calls), x, model, args);
        }
        while (left > 0) {
            if (random.nextInt(60) == 0) {
                left -= feedText(run, calls, x, model, random, left);
            } else {
                Method call = calls.get(random.nextInt(calls.size()));
                if (call.getName().equals("parish") && random.nextInt(8) > 0) {
                    continue;
                }
                both(run, call, x, model, arguments(call, random, wild));
                left--;
            }
        }
    }

    private static Method call(String name, List<Method> calls) {
        for (Method m : calls) {
            if (m.getName().equals(name)) {
                return m;
            }
        }
        throw new IllegalArgumentException(name);
    }

    private static void both(int run, Method call, WarmGossip x, Model model, Object[] args)
            throws ReflectiveOperationException {
        Number got = (Number) call.invoke(x, args);
        Number want = (Number) Model.class.getDeclaredMethod(call.getName(), call.getParameterTypes())
            .invoke(model, args);
        Due.is("run " + run + ": " + call.getName() + java.util.Arrays.toString(args), got.longValue(),
            want.longValue());
    }

    private static Object[] arguments(Method call, Random random, int wild) {
        Class<?>[] types = call.getParameterTypes();
        Object[] args = new Object[types.length];
        for (int i = 0; i < types.length; i++) {
            int v = number(random, wild);
            args[i] = types[i] == long.class ? (Object) (long) v : (Object) v;
        }
        return args;
    }

    private static int number(Random random, int wild) {
        if (random.nextInt(100) < wild) {
            return EDGES[random.nextInt(EDGES.length)];
        }
        switch (random.nextInt(8)) {
            case 0: return random.nextInt(2);
            case 1: return random.nextInt(100);
            case 2: return random.nextInt(15);
            case 3: return -1;
            default: return random.nextInt(6);
        }
    }

    /** How many calls it took. */
    private static int feedText(int run, List<Method> calls, WarmGossip x, Model model, Random random, int left)
            throws ReflectiveOperationException {
        StringBuilder text = new StringBuilder();
        int sentences = random.nextInt(14);
        for (int i = 0; i < sentences; i++) {
            text.append(SENTENCES[random.nextInt(SENTENCES.length)]);
        }
        for (int faults = random.nextInt(3); faults > 0 && text.length() > 0; faults--) {
            int place = random.nextInt(text.length());
            if (random.nextBoolean()) {
                text.deleteCharAt(place);
            } else {
                text.insert(place, WORDS[random.nextInt(WORDS.length)]);
            }
        }
        int taken = 0;
        for (int from = 0; from < text.length() && taken < left - 1; from += 8) {
            int n = Math.min(8, text.length() - from);
            long eight = 0;
            for (int i = n - 1; i >= 0; i--) {
                eight = eight << 8 | text.charAt(from + i);
            }
            both(run, call("feed", calls), x, model, new Object[] {eight, n});
            taken++;
        }
        both(run, call("parish", calls), x, model, new Object[0]);
        return taken + 1;
    }
}
