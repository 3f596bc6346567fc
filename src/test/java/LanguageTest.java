import java.lang.reflect.Constructor;
import java.lang.reflect.Field;
import java.lang.reflect.Method;
import java.lang.reflect.Modifier;
import java.nio.charset.StandardCharsets;
import java.nio.file.Files;
import java.nio.file.Path;
import java.util.ArrayList;
import java.util.Arrays;
import java.util.List;
import java.util.TreeSet;
import java.util.regex.Matcher;
import java.util.regex.Pattern;

/** What of LANGUAGE.md can be seen from the source and from the class itself. */
final class LanguageTest {
    private static final String FACE = "int money(int,int);int ownerOf(int,int);int frame(int,int);"
        + "int frameOf(int,int);int set(int,int,int);int of(int,int);int fine(int,int);int turn(int,int);"
        + "int as(int,int);int trade(int,int);int shift();int back();int stone(int,int);int home();"
        + "int hours(int);int now(int);int on(int,int);int then(int,int,int);int rich(int,int);"
        + "int best(int,int);int kind(int,int);int shifts(int,int);int least(int,int,int,int);"
        + "int draw(int);int richest(int);int feed(int,int);int wipe();int city();"
        + "int sheet(int,int,int);long write(int,int,long);int copy(int,int,int,int,int);int lays(int);"
        + "int book(int,int);int read(int,int,int);int image();int undo();int tear();int count(int);"
        + "int status(int)";
    private static final String[] FORBIDDEN = {
        "\\b(throw|throws|try|catch|synchronized|assert|native|transient|volatile|import|package)\\b",
        "->", "::", "\\binstanceof\\b", "Exact\\(", "\\b(equals|hashCode|toString)\\(",
        "\\b(System\\.(?!arraycopy)|Thread|Random|Runtime|Class|Object|Exception|Error)\\b",
        "\" *\\+|\\+ *\"", "while *\\(true\\)", "for *\\(;;\\)"};

    private final Checks c = new Checks();

    public static void main(String[] args) throws Exception {
        new LanguageTest().runAll();
    }

    private void runAll() throws Exception {
        String source = Files.readString(Path.of("src/main/java/ViewTrades.java"), StandardCharsets.UTF_8);
        String bare = source.replaceAll("(?s)/\\*.*?\\*/", "").replaceAll("//[^\n]*", "");
        face();
        insides();
        words(source, bare);
        objects(bare);
        lengths(bare);
        c.finish();
    }

    private void face() {
        c.begin("rule 1: the face");
        Class<?> type = ViewTrades.class;
        if (type.getModifiers() != (Modifier.PUBLIC | Modifier.FINAL)) c.wrong("the class isn't public and final");
        TreeSet<String> want = new TreeSet<>(Arrays.asList(FACE.split(";")));
        TreeSet<String> got = new TreeSet<>();
        for (Method m : type.getDeclaredMethods()) {
            if (m.getModifiers() == Modifier.PUBLIC) got.add(signature(m));
            else if (!Modifier.isPrivate(m.getModifiers())) c.wrong(m + " is neither public nor private");
        }
        if (!want.equals(got)) c.wrong("the face is " + got + ", due is " + want);
        for (Field f : type.getDeclaredFields()) {
            if (!Modifier.isPrivate(f.getModifiers())) c.wrong(f + " isn't private");
        }
        Constructor<?>[] made = type.getDeclaredConstructors();
        if (made.length != 1 || made[0].getParameterCount() != 0 || made[0].getModifiers() != Modifier.PUBLIC) {
            c.wrong("the constructors are " + Arrays.toString(made));
        }
        c.end();
    }

    private static String signature(Method m) {
        StringBuilder s = new StringBuilder(m.getReturnType() + " " + m.getName() + "(");
        for (Class<?> p : m.getParameterTypes()) {
            s.append(s.charAt(s.length() - 1) == '(' ? "" : ",").append(p);
        }
        return s.append(")").toString();
    }

    private void insides() {
        c.begin("rules 1, 2, 5 and 11: classes, fields and names inside");
        TreeSet<String> names = new TreeSet<>();
        for (Method m : ViewTrades.class.getDeclaredMethods()) {
            if (Modifier.isPublic(m.getModifiers())) names.add(m.getName());
        }
        List<Class<?>> types = new ArrayList<>(Arrays.asList(ViewTrades.class.getDeclaredClasses()));
        if (types.size() > 11) c.wrong("there are too many classes");
        for (Class<?> t : types) {
            if (!Modifier.isStatic(t.getModifiers()) || Modifier.isPublic(t.getModifiers())) c.wrong(t + " isn't as it should be");
        }
        types.add(ViewTrades.class);
        for (Class<?> t : types) {
            int fields = 0;
            for (Field f : t.getDeclaredFields()) {
                if (!Modifier.isStatic(f.getModifiers())) fields++;
                else if (!Modifier.isFinal(f.getModifiers())) c.wrong(f + " is static, but not final");
            }
            if (fields > 20) c.wrong(t + " has " + fields + " fields");
            for (Method m : t.getDeclaredMethods()) {
                if (t != ViewTrades.class && names.contains(m.getName())) c.wrong(m + " bears a name of the face");
                if (!Modifier.isPublic(m.getModifiers()) && names.contains(m.getName())) c.wrong(m + " bears a name of the face");
                if (m.getParameterCount() > 7) c.wrong(m + " takes too much");
            }
        }
        c.end();
    }

    private void words(String source, String bare) {
        c.begin("rules 4, 6, 10 and 13: words that may not stand there");
        for (String f : FORBIDDEN) {
            Matcher m = Pattern.compile(f).matcher(bare);
            if (m.find()) c.wrong("\"" + m.group() + "\" stands there");
        }
        for (int i = 0; i < source.length(); i++) {
            if (source.charAt(i) > 126) c.wrong("character " + (int) source.charAt(i) + " at " + i);
        }
        c.end();
    }

    /** So no call makes anything, and a room of any size holds a run of any length. */
    private void objects(String bare) {
        c.begin("rule 12: objects are made by constructors alone");
        Pattern field = Pattern.compile("(private )?(static )?final [\\w\\[\\]]+ \\w+ = new .*;");
        for (String line : bare.split("\n")) {
            String l = line.trim();
            if (l.matches(".*\\bnew\\b.*") && !field.matcher(l).matches() && !l.equals("sheets[s] = new Sheet();")) {
                c.wrong("made in a call: " + l);
            }
        }
        c.end();
    }

    private void lengths(String bare) {
        c.begin("rule 11: short methods");
        Pattern head = Pattern.compile("( ++)(?!if|for|while|switch|else|return)[\\w\\[\\] ]+\\([^()]*\\) \\{");
        String[] lines = bare.split("\n");
        int methods = 0;
        for (int i = 0; i < lines.length; i++) {
            Matcher m = head.matcher(lines[i]);
            if (m.matches()) {
                methods++;
                int end = i;
                while (end < lines.length && !lines[end].equals(m.group(1) + "}")) end++;
                if (end - i > 60) c.wrong(lines[i].trim() + " has " + (end - i) + " lines");
            }
        }
        if (methods < 40) c.wrong("only " + methods + " methods were found");
        c.end();
    }
}
