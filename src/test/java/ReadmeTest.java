import java.lang.reflect.Method;
import java.lang.reflect.Modifier;
import java.nio.charset.StandardCharsets;
import java.nio.file.Files;
import java.nio.file.Path;
import java.util.regex.Matcher;
import java.util.regex.Pattern;

/** README.md says how to use the class: what it says must be so. */
final class ReadmeTest {
    private static final Pattern ROW = Pattern.compile("(?m)^city\\.(\\w+)\\(([^()]*)\\); +// (-?\\d+):");
    private static final Pattern TEXT = Pattern.compile("answers its (\\d+) ITEMS.*?\n\n {4}([^\n]+)\n", Pattern.DOTALL);

    private final Checks c = new Checks();

    public static void main(String[] args) throws Exception {
        new ReadmeTest().runAll();
    }

    private void runAll() throws Exception {
        String page = Files.readString(Path.of("README.md"), StandardCharsets.UTF_8);
        rows(page);
        text(page);
        names(page);
        c.finish();
    }

    private void rows(String page) throws Exception {
        c.begin("README.md: each row of its example answers so");
        ViewTrades city = new ViewTrades();
        Matcher m = ROW.matcher(page);
        int rows = 0;
        while (m.find()) {
            rows++;
            c.due(m.group(1) + "(" + m.group(2) + ")", call(city, m.group(1), m.group(2)), Long.parseLong(m.group(3)));
        }
        c.due("rows found", rows, page.lines().filter(l -> l.startsWith("city.")).count());
        if (rows == 0) c.wrong("no row was found");
        c.end();
    }

    private static long call(ViewTrades city, String name, String numbers) throws Exception {
        String[] each = numbers.isEmpty() ? new String[0] : numbers.split(", ");
        Class<?>[] types = new Class<?>[each.length];
        Object[] args = new Object[each.length];
        for (int i = 0; i < each.length; i++) {
            types[i] = int.class;
            args[i] = Integer.parseInt(each[i]);
        }
        return ((Number) ViewTrades.class.getMethod(name, types).invoke(city, args)).longValue();
    }

    private void text(String page) {
        c.begin("README.md: its text is one of as many ITEMS as it says");
        Matcher m = TEXT.matcher(page);
        if (m.find()) {
            ViewTrades city = new ViewTrades();
            EdgeTests.feed(city, m.group(2));
            c.due("city() of \"" + m.group(2) + "\"", city.city(), Long.parseLong(m.group(1)));
        } else {
            c.wrong("no text was found");
        }
        c.due("feed(0x73656120, 4), then city(): it ends too early", asBytes(), -5);
        c.end();
    }

    private static int asBytes() {
        ViewTrades city = new ViewTrades();
        city.feed(0x73656120, 4);
        return city.city();
    }

    private void names(String page) {
        c.begin("README.md: every call is named with as many arguments as it takes");
        for (Method m : ViewTrades.class.getDeclaredMethods()) {
            if (Modifier.isPublic(m.getModifiers()) && !isNamed(page, m)) {
                c.wrong(m.getName() + " isn't named");
            }
        }
        c.end();
    }

    private static boolean isNamed(String page, Method m) {
        Matcher named = Pattern.compile("`" + m.getName() + "\\(([^()`]*)\\)`").matcher(page);
        while (named.find()) {
            int arguments = named.group(1).isEmpty() ? 0 : named.group(1).split(", ").length;
            if (arguments == m.getParameterCount()) {
                return true;
            }
        }
        return false;
    }
}
