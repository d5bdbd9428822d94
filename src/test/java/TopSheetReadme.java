import java.io.IOException;
import java.lang.reflect.Method;
import java.nio.charset.StandardCharsets;
import java.nio.file.Files;
import java.nio.file.Path;
import java.util.List;
import java.util.regex.Matcher;
import java.util.regex.Pattern;

/** README.md tells the truth: each call of its examples answers what stands behind it, each call is named. */
public final class TopSheetReadme extends Check {
    private static final Pattern CALL = Pattern.compile("x\\.(\\w+)\\((.*)\\); *// (-?\\w+).*");
    private static final Pattern TEXT = Pattern.compile("String text = \"(.*)\";");

    public static void main(String[] args) throws IOException, ReflectiveOperationException {
        String page = Files.readString(Path.of("README.md"), StandardCharsets.US_ASCII);
        int made = answers(page.split("\n"));
        due("lines with a call and its answer that were run", made, page.split("(?m)^x\\.", -1).length - 1);
        for (Method call : TopSheet.class.getDeclaredMethods()) {
            boolean named = (call.getModifiers() & 1) == 0 || page.contains("`" + call.getName() + "`");
            due("the table names " + call.getName(), named ? 1 : 0, 1);
        }
        end("the examples of README.md hold");
    }

    /** All examples are of one object, as on the page. */
    private static int answers(String[] lines) throws ReflectiveOperationException {
        TopSheet x = new TopSheet();
        int made = 0;
        for (String line : lines) {
            Matcher text = TEXT.matcher(line);
            Matcher call = CALL.matcher(line);
            if (text.matches()) {
                write(x, text.group(1));
            } else if (call.matches()) {
                due("README.md: " + line, answer(x, call.group(1), call.group(2)), number(call.group(3)));
                made++;
            }
        }
        return made;
    }

    private static int answer(TopSheet x, String name, String told) throws ReflectiveOperationException {
        String[] values = told.isEmpty() ? new String[0] : told.split(", ");
        for (Method call : List.of(TopSheet.class.getMethods())) {
            if (call.getName().equals(name) && call.getParameterCount() == values.length) {
                Object[] with = new Object[values.length];
                for (int i = 0; i < values.length; i++) {
                    boolean isLong = call.getParameterTypes()[i] == long.class;
                    if (isLong) {
                        with[i] = Long.decode(values[i].replace("L", ""));
                    } else {
                        with[i] = Integer.decode(values[i]);
                    }
                }
                return (Integer) call.invoke(x, with);
            }
        }
        throw new NoSuchMethodException(name + "(" + told + ")");
    }

    private static int number(String told) throws ReflectiveOperationException {
        return told.matches("-?\\d+") ? Integer.parseInt(told) : TopSheet.class.getField(told).getInt(null);
    }
}
