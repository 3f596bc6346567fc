import java.lang.reflect.InvocationTargetException;
import java.lang.reflect.Method;
import java.lang.reflect.Modifier;
import java.util.ArrayList;
import java.util.Arrays;
import java.util.Comparator;
import java.util.List;
import java.util.Map;
import java.util.Random;

/** Long runs of calls, the same ones each time, that must answer just as PlainCity does. */
final class PlainCityTest {
    private static final int RUNS = 240;
    private static final int CALLS = 512;
    private static final int[] ODD = {-1, Integer.MIN_VALUE, Integer.MAX_VALUE, 1000000};

    // The highest number that each argument of a call may have.
    private static final Map<String, int[]> HIGHEST = Map.ofEntries(
        Map.entry("money", new int[] {3, 99999}), Map.entry("ownerOf", new int[] {3, 3}),
        Map.entry("frame", new int[] {5, 3}), Map.entry("frameOf", new int[] {7, 3}),
        Map.entry("set", new int[] {7, 1, 3}), Map.entry("of", new int[] {7, 5}),
        Map.entry("fine", new int[] {7, 99}), Map.entry("turn", new int[] {7, 5}),
        Map.entry("as", new int[] {7, 5}), Map.entry("trade", new int[] {7, 7}),
        Map.entry("stone", new int[] {7, 20}), Map.entry("hours", new int[] {200}),
        Map.entry("now", new int[] {5}), Map.entry("on", new int[] {3, 400}),
        Map.entry("then", new int[] {7, 400, 1}), Map.entry("rich", new int[] {3, 99999}),
        Map.entry("best", new int[] {3, 200}), Map.entry("kind", new int[] {7, 200}),
        Map.entry("shifts", new int[] {3, 200}), Map.entry("least", new int[] {7, 3, 200, 99999}),
        Map.entry("draw", new int[] {200}), Map.entry("richest", new int[] {400}),
        Map.entry("sheet", new int[] {3, 64, 40}), Map.entry("write", new int[] {3, 39, 0}),
        Map.entry("copy", new int[] {3, 39, 3, 39, 40}), Map.entry("lays", new int[] {3}),
        Map.entry("book", new int[] {3, 3}), Map.entry("read", new int[] {3, 3, 7}),
        Map.entry("count", new int[] {3}), Map.entry("status", new int[] {6}));

    private static final String[] PIECES = {
        "yard", "sea", "street", "sky", "steeple", "garden", "trade", "money", "fine", "curtain",
        ";", ";", ";", " ", "  ", "0", "1", "2", "3", "4", "7", "99", "100", "9999", "10000", "007",
        "99999999999", "seas", "x", "A", "-", "\n", "\u0000", "\u00e9", "\u00ff"};

    private final Checks checks = new Checks();
    private final List<Method> calls = new ArrayList<>();
    private Random random;
    private ViewTrades real;
    private PlainCity plain;
    private boolean agrees;

    public static void main(String[] args) {
        new PlainCityTest().runAll();
    }

    private void runAll() {
        for (Method m : ViewTrades.class.getDeclaredMethods()) {
            if (Modifier.isPublic(m.getModifiers())) calls.add(m);
        }
        calls.sort(Comparator.comparing(Method::getName));
        for (int run = 0; run < RUNS; run++) {
            checks.begin("plain run " + run);
            random = new Random(run);
            real = new ViewTrades();
            plain = new PlainCity();
            agrees = true;
            oneRun(run);
            checks.end();
        }
        checks.finish();
    }

    private void oneRun(int run) {
        int oddity = run % 4 == 0 ? 6 : 40;
        int starts = 2 + random.nextInt(12);
        for (int n = 0; n < CALLS && agrees;) {
            int choice = random.nextInt(20);
            if (n < starts) {
                n += call("frame", random.nextInt(6), random.nextInt(4));
            } else if (choice == 0) {
                n += feedText(randomText());
            } else if (choice == 1) {
                n += bookAndRead();
            } else if (choice == 2) {
                n += call("hours", 1 + random.nextInt(200));
            } else if (choice == 3) {
                n += call("money", random.nextInt(4), random.nextInt(4) == 0 ? 99900 + random.nextInt(100) : random.nextInt(2000));
            } else if (choice == 4) {
                n += call("rich", random.nextInt(4), random.nextInt(5000));
            } else if (choice == 5) {
                n += call("least", random.nextInt(8), random.nextInt(4), 1 + random.nextInt(200), random.nextInt(6000));
            } else {
                n += anyCall(calls.get(random.nextInt(calls.size())), oddity);
            }
        }
    }

    private int anyCall(Method m, int oddity) {
        if (m.getName().equals("feed")) return feedText(randomText());
        Class<?>[] types = m.getParameterTypes();
        Object[] args = new Object[types.length];
        int[] highest = HIGHEST.getOrDefault(m.getName(), new int[0]);
        for (int i = 0; i < types.length; i++) {
            if (types[i] == long.class) {
                args[i] = random.nextInt(3) == 0 ? random.nextLong() : (long) random.nextInt(300) - 100;
            } else {
                args[i] = argument(highest[i], oddity);
            }
        }
        if (m.getName().equals("sheet") && random.nextInt(8) != 0) args[1] = new int[] {0, 8, 16, 64, 16, 64}[random.nextInt(6)];
        return compare(m, args);
    }

    private int argument(int highest, int oddity) {
        if (random.nextInt(oddity) == 0) {
            return random.nextInt(3) == 0 ? highest + 1 : ODD[random.nextInt(ODD.length)];
        }
        if (random.nextInt(10) == 0) return random.nextBoolean() ? 0 : highest;
        return highest > 1000 && random.nextBoolean() ? random.nextInt(1000) : random.nextInt(highest + 1);
    }

    private int bookAndRead() {
        int s = random.nextInt(4);
        int owner = random.nextInt(4);
        int n = call("sheet", s, random.nextBoolean() ? 64 : 16, random.nextInt(41));
        n += call("book", s, owner);
        return n + call("read", s, random.nextInt(9) == 0 ? random.nextInt(4) : owner, random.nextInt(8));
    }

    private String randomText() {
        StringBuilder text = new StringBuilder();
        int pieces = random.nextInt(5);
        for (int i = 0; i <= pieces; i++) {
            if (i > 0) text.append(random.nextInt(15) == 0 ? "" : random.nextBoolean() ? ";" : " ; ");
            text.append(randomItem());
        }
        for (int i = random.nextInt(3); i > 0 && random.nextInt(3) == 0; i--) {
            int at = random.nextInt(text.length() + 1);
            text.insert(at, PIECES[random.nextInt(PIECES.length)]);
        }
        return text.substring(0, random.nextInt(8) == 0 ? random.nextInt(text.length() + 1) : text.length());
    }

    private String randomItem() {
        int kind = random.nextInt(9);
        if (kind == 6) return "money " + random.nextInt(random.nextInt(9) == 0 ? 5 : 4) + " " + random.nextInt(10001);
        if (kind >= 7) return "trade " + random.nextInt(plain.w.places.size() + 2) + " " + random.nextInt(plain.w.places.size() + 2);
        String item = PlainCity.NAMES[kind] + (random.nextBoolean() ? " " : "") + random.nextInt(random.nextInt(9) == 0 ? 5 : 4);
        if (random.nextBoolean()) item += " fine " + random.nextInt(random.nextInt(9) == 0 ? 102 : 100);
        if (random.nextInt(3) == 0) item += " curtain";
        return item;
    }

    private int feedText(String text) {
        int n = 0;
        int at = 0;
        while (at < text.length()) {
            int many = Math.min(4, text.length() - at);
            int bytes = random.nextInt();
            for (int i = 0; i < many; i++) bytes = bytes << 8 | text.charAt(at + i);
            n += call("feed", bytes, many);
            at += many;
        }
        return n + (random.nextInt(12) == 0 ? 0 : call("city"));
    }

    private int call(String name, int... args) {
        for (Method m : calls) {
            if (m.getName().equals(name)) return compare(m, Arrays.stream(args).boxed().toArray());
        }
        throw new IllegalStateException("no call " + name);
    }

    private int compare(Method m, Object[] args) {
        if (!agrees) return 1;
        try {
            Object want = PlainCity.class.getMethod(m.getName(), m.getParameterTypes()).invoke(plain, args);
            Object got = m.invoke(real, args);
            if (!got.equals(want)) disagree(m, args, "answered " + got + ", due is " + want);
        } catch (InvocationTargetException e) {
            disagree(m, args, "threw " + e.getCause());
        } catch (ReflectiveOperationException e) {
            disagree(m, args, "can't be called: " + e);
        }
        return 1;
    }

    private void disagree(Method m, Object[] args, String how) {
        agrees = false;
        checks.wrong(m.getName() + Arrays.toString(args) + " " + how);
    }
}
