import java.lang.reflect.Constructor;
import java.lang.reflect.Field;
import java.lang.reflect.Method;
import java.lang.reflect.Modifier;
import java.nio.file.Files;
import java.nio.file.Path;
import java.util.Random;
import java.util.Set;
import java.util.TreeSet;
import java.util.regex.Matcher;
import java.util.regex.Pattern;

/** The public face, what of LANGUAGE.md a text search can find, and wild arguments, by which no call may throw. */
public final class FaceTest {
    private static final String FACE = "int beast(int int int int);int of(int int);int set(int int int);"
        + "int enemies(int int boolean);int tamer(int);int feed(int int);int ring();int go(int);long safe();"
        + "int from(int);int walk(int);int gone(int);int shortest(int int);int seats(int);int sit();int line(int);"
        + "int thunder(int);long calm(int int);int film(int);int kinds(int);int judge(int int int);int image();"
        + "int undo();int act(int int int);int trace(int);int taken(int int);int count(int);int tape(int int int);"
        + "int item(int int long);long read(int int);int shift(int int int int int)";
    private static final String[] FORBIDDEN = {"throw", "try", "catch", "synchronized", "assert", "static {",
        "->", "::", "Exact(", "import ", "hashCode", "toString", "while (true)", "for (;;)", "System.out", "NaN"};

    public static void main(String[] args) throws Exception {
        constants();
        face();
        source();
        wild();
        Check.end();
    }

    private static void constants() {
        Check.due("NONE", LionRing.NONE, -1);
        Check.due("BAD", LionRing.BAD, -2);
        Check.due("STATE", LionRing.STATE, -3);
        Check.due("FULL", LionRing.FULL, -4);
        Check.due("NO", LionRing.NO, Long.MIN_VALUE);
    }

    private static void face() {
        Set<String> open = new TreeSet<>();
        Set<String> hidden = new TreeSet<>();
        for (Method m : LionRing.class.getDeclaredMethods()) {
            StringBuilder call = new StringBuilder(m.getReturnType() + " " + m.getName() + "(");
            for (Class<?> type : m.getParameterTypes()) {
                call.append(call.charAt(call.length() - 1) == '(' ? "" : " ").append(type);
            }
            if (Modifier.isPublic(m.getModifiers()) && !Modifier.isStatic(m.getModifiers())) {
                open.add(call.append(")").toString());
            } else {
                hidden.add(m.getName());
                Check.due("private: " + call, Modifier.isPrivate(m.getModifiers()) ? 1 : 0, 1);
            }
        }
        Check.due("the methods", open.toString(), new TreeSet<>(Set.of(FACE.split(";"))).toString());
        Set<String> fields = new TreeSet<>();
        for (Field f : LionRing.class.getDeclaredFields()) {
            if (!Modifier.isPrivate(f.getModifiers())) {
                fields.add(Modifier.toString(f.getModifiers()) + " " + f.getType() + " " + f.getName());
            }
        }
        Check.due("the fields", fields.toString(), "[public static final int BAD, public static final int FULL, "
            + "public static final int NONE, public static final int STATE, public static final long NO]");
        Constructor<?>[] made = LionRing.class.getDeclaredConstructors();
        Check.due("constructors", made.length, 1);
        Check.due("its arguments", made[0].getParameterCount(), 0);
        Check.due("the class", Modifier.toString(LionRing.class.getModifiers()), "public final");
        for (Class<?> inner : LionRing.class.getDeclaredClasses()) {
            Check.due("static: " + inner, Modifier.isStatic(inner.getModifiers()) ? 1 : 0, 1);
            for (Method m : inner.getDeclaredMethods()) {
                hidden.add(m.getName());
            }
        }
        for (Method m : LionRing.class.getDeclaredMethods()) {
            if (Modifier.isPublic(m.getModifiers())) {
                Check.due("also a hidden one: " + m.getName(), hidden.contains(m.getName()) ? 1 : 0, 0);
            }
        }
    }

    private static void source() throws Exception {
        String text = Files.readString(Path.of("src/main/java/LionRing.java"));
        String code = text.replaceAll("(?s)/\\*.*?\\*/", "").replaceAll("//[^\n]*", "");
        for (String word : FORBIDDEN) {
            Check.due("in the source: " + word, code.indexOf(word), -1);
        }
        for (int i = 0; i < text.length(); i++) {
            if (text.charAt(i) > 126) {
                Check.due("a sign above 126 at " + i, text.charAt(i), 0);
            }
        }
        Matcher used = Pattern.compile("\\b(Math|Integer|Long|System|Arrays)\\.(\\w+)").matcher(code);
        Set<String> library = new TreeSet<>();
        while (used.find()) {
            library.add(used.group());
        }
        Check.due("the library", library.toString(),
            "[Integer.bitCount, Long.MIN_VALUE, Math.abs, Math.max, Math.min, System.arraycopy]");
        int length = 0;
        for (String line : code.split("\n")) {
            boolean begins = line.matches(" +(public |private |static |final )*[\\w\\[\\]]+ \\w+\\([^;]*\\) \\{")
                && !line.matches(" +(if|for|switch|else|while|return).*");
            length = begins ? 0 : length + 1;
            Check.due("a line too long: " + line, line.length() > 120 ? 1 : 0, 0);
            if (line.matches(" {4}( {4})?\\}")) {
                Check.due("a method too long ahead of: " + line, length > 60 ? length : 0, 0);
            }
        }
    }

    private static int wildInt(Random dice) {
        int[] edges = {-1, 0, 1, 5, 6, 35, 36, 60, 61, Integer.MAX_VALUE, Integer.MIN_VALUE};
        switch (dice.nextInt(4)) {
            case 0: return edges[dice.nextInt(edges.length)];
            case 1: return dice.nextInt();
            default: return dice.nextInt(8);
        }
    }

    private static Object wildValue(Random dice, Class<?> type) {
        if (type == boolean.class) {
            return dice.nextBoolean();
        }
        if (type == long.class) {
            return dice.nextLong();
        }
        return wildInt(dice);
    }

    /** A call that throws ends the test by InvocationTargetException. */
    private static void wild() throws Exception {
        Random dice = new Random(7);
        for (int run = 0; run < 300; run++) {
            LionRing x = new LionRing();
            for (int call = 0; call < 512; call++) {
                for (Method m : LionRing.class.getDeclaredMethods()) {
                    if (!Modifier.isPublic(m.getModifiers()) || dice.nextInt(31) != 0) {
                        continue;
                    }
                    Object[] values = new Object[m.getParameterCount()];
                    for (int i = 0; i < values.length; i++) {
                        values[i] = wildValue(dice, m.getParameterTypes()[i]);
                    }
                    m.invoke(x, values);
                }
            }
        }
    }
}
