import java.io.IOException;
import java.lang.reflect.Constructor;
import java.lang.reflect.Field;
import java.lang.reflect.InvocationTargetException;
import java.lang.reflect.Method;
import java.lang.reflect.Modifier;
import java.nio.charset.StandardCharsets;
import java.nio.file.Files;
import java.nio.file.Path;
import java.util.ArrayList;
import java.util.List;
import java.util.Set;
import java.util.TreeSet;

/** The face of the class, the rules of LANGUAGE.md that can be read off it, and that no call throws. */
public final class TopSheetFace {
    private static final String[] FACE = {
        "row(int,int,int)", "set(int,int,int)", "copy(int,int,int,int,int)", "drop(int)", "feed(long,int)",
        "office()", "fault()", "lift(int)", "lay(int,int)", "blank(int)", "quarter(int)", "undo()",
        "sheet(int,int)", "desk(int,int)", "taken(int,int)", "mean(int,int)", "order(int,int,int)",
        "cover(int,int)", "lend(int,int)", "beach(int,int,int,int)", "window()", "missed(int)", "image(int)",
        "restore(int)", "kind(int)", "as(int,int)", "ask(int,int)", "trace(int)", "count(int)", "status()"};
    private static final String[] UNWANTED = {
        "throw", "throws", "try", "catch", "finally", "synchronized", "assert", "package", "import", "var",
        "Object", "Exception", "Thread", "System.nanoTime", "System.currentTimeMillis", "System.out", "Random",
        "equals", "hashCode", "toString", "yield", "native", "volatile", "transient", "protected", "null", "Exact"};
    private static final int LONGEST_METHOD = 60;

    private static int wrong = 0;

    private static void holds(boolean is, String what) {
        if (!is) {
            wrong++;
            System.out.println(what);
        }
    }

    public static void main(String[] args) throws IOException, ReflectiveOperationException {
        members();
        innerClasses();
        source();
        extremes();
        System.out.println(wrong == 0 ? "the face and the rules hold" : wrong + " faults");
        if (wrong != 0) {
            System.exit(1);
        }
    }

    private static String shape(Method m) {
        List<String> types = new ArrayList<>();
        for (Class<?> t : m.getParameterTypes()) {
            types.add(t.getSimpleName());
        }
        return m.getName() + "(" + String.join(",", types) + ")";
    }

    private static void members() {
        holds(Modifier.isPublic(TopSheet.class.getModifiers()), "the class is public");
        holds(Modifier.isFinal(TopSheet.class.getModifiers()), "the class is final");
        Set<String> left = new TreeSet<>(List.of(FACE));
        Set<String> names = new TreeSet<>();
        for (String f : FACE) {
            names.add(f.substring(0, f.indexOf('(')));
        }
        for (Method m : TopSheet.class.getDeclaredMethods()) {
            if (Modifier.isPrivate(m.getModifiers()) || m.isSynthetic()) {
                holds(!names.contains(m.getName()), "a private method bears a public name: " + m);
            } else {
                holds(left.remove(shape(m)), "not of the face: " + m);
                holds(m.getReturnType() == int.class && Modifier.isPublic(m.getModifiers()), "not public int: " + m);
            }
        }
        holds(left.isEmpty(), "missing: " + left);
        for (Field f : TopSheet.class.getDeclaredFields()) {
            boolean constant = Set.of("NONE", "BAD", "STATE", "FULL").contains(f.getName());
            holds(constant ? Modifier.isPublic(f.getModifiers()) : Modifier.isPrivate(f.getModifiers()), "field " + f);
            holds(!Modifier.isStatic(f.getModifiers()) || Modifier.isFinal(f.getModifiers()), "static, not final " + f);
        }
        Constructor<?>[] made = TopSheet.class.getDeclaredConstructors();
        holds(made.length == 1 && made[0].getParameterCount() == 0
            && Modifier.isPublic(made[0].getModifiers()), "one public constructor");
    }

    private static void innerClasses() {
        Class<?>[] inner = TopSheet.class.getDeclaredClasses();
        holds(inner.length <= 11, "some twelve classes at most");
        for (Class<?> c : inner) {
            int m = c.getModifiers();
            holds(Modifier.isStatic(m) && !Modifier.isPublic(m) && !Modifier.isProtected(m), "class " + c);
            int fields = 0;
            for (Field f : c.getDeclaredFields()) {
                if (Modifier.isStatic(f.getModifiers())) {
                    holds(Modifier.isFinal(f.getModifiers()), "static, not final " + f);
                } else {
                    fields++;
                }
            }
            holds(fields <= 20, "some twenty fields at most: " + c);
            for (Method method : c.getDeclaredMethods()) {
                holds(method.getParameterCount() <= 7, "seven parameters at most: " + method);
            }
        }
    }

    /** The text without comments and without what stands within quotes. */
    private static String bare(String text) {
        return text.replaceAll("(?s)/\\*.*?\\*/", " ").replaceAll("//[^\n]*", " ")
            .replaceAll("\"[^\"\n]*\"", "\"\"").replaceAll("'(\\\\.|[^'\\\\])'", "' '");
    }

    private static void source() throws IOException {
        String text = Files.readString(Path.of("src/main/java/TopSheet.java"), StandardCharsets.US_ASCII);
        String code = bare(text);
        for (String word : UNWANTED) {
            holds(!code.matches("(?s).*(?<![A-Za-z])" + word.replace(".", "\\.") + "(?![A-Za-z]).*"), "unwanted: " + word);
        }
        holds(!code.contains("->") && !code.contains("::"), "no lambda, no method reference");
        holds(!code.contains("@"), "no annotation");
        holds(!code.matches("(?s).*static\\s*\\{.*"), "no static initialiser block");
        holds(!code.contains("\"\" +") && !code.contains("+ \"\""), "texts are not joined by +");
        holds(!code.contains("/ 0") && !code.contains("instanceof"), "nothing that asks for a test of its own");
        String start = null;
        int lines = 0;
        for (String line : text.split("\n")) {
            if (line.matches(" {4}( {4})?\\S.*\\) \\{")) {
                start = line.trim();
                lines = 0;
            }
            lines++;
            holds(line.length() <= 120, "a long line: " + line);
            if (start != null && line.matches(" {4}( {4})?\\}")) {
                holds(lines <= LONGEST_METHOD, "a long method: " + start);
                start = null;
            }
        }
    }

    private static void write(TopSheet x, String text) {
        for (int i = 0; i < text.length(); i++) {
            x.feed(text.charAt(i), 1);
        }
    }

    private static TopSheet someState(int state) {
        TopSheet x = new TopSheet();
        if (state > 0) {
            write(x, "wind 99 99 99 99 99 99 99 99 99 99 99 99;desk 9 0;desk 1 3;");
            write(x, "sheet will 0 99 12;sheet slate 0 0 0;sheet bill 0 1 2;sheet blank 1 1 2;");
            x.office();
            x.image(0);
            x.row(0, 0, 40);
            x.row(1, 2, 0);
        }
        for (int i = 1; i < state; i++) {
            x.blank(0);
            x.quarter(i);
            x.lift(i % 4);
        }
        return x;
    }

    /** In every state each call answers for numbers of any size; an object has 512 calls at most. */
    private static void extremes() throws ReflectiveOperationException {
        int[] some = {Integer.MIN_VALUE, -1, 0, 1, 9, 40, Integer.MAX_VALUE};
        for (int state = 0; state < 15; state += 2) {
            for (Method m : TopSheet.class.getMethods()) {
                if (m.getDeclaringClass() != TopSheet.class) {
                    continue;
                }
                int cases = 1;
                for (int p = 0; p < m.getParameterCount(); p++) {
                    cases *= some.length;
                }
                TopSheet x = someState(state);
                for (int c = 0; c < cases; c++) {
                    if (c % 200 == 199) {
                        x = someState(state);
                    }
                    callWith(x, m, some, c);
                }
            }
        }
    }

    private static void callWith(TopSheet x, Method m, int[] some, int number) throws ReflectiveOperationException {
        Object[] with = new Object[m.getParameterCount()];
        int rest = number;
        for (int p = 0; p < with.length; p++) {
            int v = some[rest % some.length];
            with[p] = m.getParameterTypes()[p] == long.class ? (Object) Long.valueOf(v) : (Object) Integer.valueOf(v);
            rest /= some.length;
        }
        try {
            m.invoke(x, with);
        } catch (InvocationTargetException e) {
            holds(false, m.getName() + java.util.Arrays.toString(with) + " threw " + e.getCause());
        }
    }
}
