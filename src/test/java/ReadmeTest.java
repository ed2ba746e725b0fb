import java.io.IOException;
import java.lang.reflect.Method;
import java.nio.file.Files;
import java.nio.file.Path;
import java.util.List;
import java.util.regex.Matcher;
import java.util.regex.Pattern;

/** README.md: its calls are answered as it says, its texts are read and written so, and it names every call. */
public final class ReadmeTest {
    private static final Check CHECK = new Check("ReadmeTest");
    private static final Pattern CALL = Pattern.compile("x\\.(\\w+)\\((.*)\\); +// ('.'|-?\\w+)(.*)");
    private static final Pattern OUTPUT = Pattern.compile("the output is \"(.*)\"");
    private static final Pattern QUOTED = Pattern.compile("`([^`]+)`");

    public static void main(String[] args) throws IOException, ReflectiveOperationException {
        String readme = Files.readString(Path.of("README.md"));
        example(between(readme, "```java\n", "```"));
        everyCall(between(readme, "### The calls", "###"));
        texts(between(readme, "### The text of a number", "An exact number"));
        written(between(readme, "a double with its shortest digits:", "###"));
        CHECK.end();
    }

    private static String between(String all, String first, String end) {
        int start = all.indexOf(first) + first.length();
        return all.substring(start, all.indexOf(end, start));
    }

    private static void example(String code) throws ReflectiveOperationException {
        DoubleTexts x = new DoubleTexts();
        List<String> lines = code.lines().toList();
        CHECK.due("first line", lines.get(0), "DoubleTexts x = new DoubleTexts();");
        for (String line : lines.subList(1, lines.size())) {
            Matcher call = CALL.matcher(line);
            CHECK.due("a call with its answer: " + line, call.matches(), true);
            Object answer = answer(x, call.group(1), call.group(2));
            if (answer != null) {
                CHECK.due(line, answer.toString(), plain(call.group(3)));
            }
            Matcher output = OUTPUT.matcher(call.group(4));
            if (output.find()) {
                CHECK.due("output after " + line, outputOf(x), output.group(1));
            }
        }
    }

    private static String outputOf(DoubleTexts x) {
        StringBuilder all = new StringBuilder();
        for (int code = x.out(0); code != -1; code = x.out(all.length())) {
            all.append((char) code);
        }
        return all.toString();
    }

    /** The answer of the call that is told in words, null for a void one. */
    private static Object answer(DoubleTexts x, String name, String told) throws ReflectiveOperationException {
        for (Method method : DoubleTexts.class.getMethods()) {
            if (method.getName().equals(name)) {
                return method.invoke(x, arguments(method.getParameterTypes(), told));
            }
        }
        throw new NoSuchMethodException(name);
    }

    private static Object[] arguments(Class<?>[] types, String told) {
        String[] parts = told.isEmpty() ? new String[0] : told.split(", ");
        Object[] values = new Object[parts.length];
        for (int i = 0; i < parts.length; i++) {
            String part = plain(parts[i]);
            values[i] = types[i] == boolean.class ? (Object) Boolean.valueOf(part)
                : types[i] == long.class ? (Object) Long.valueOf(part) : (Object) Integer.valueOf(part);
        }
        return values;
    }

    /** A character in quotes stands for its code. */
    private static String plain(String told) {
        return told.startsWith("'") ? Integer.toString(told.charAt(1)) : told;
    }

    private static void everyCall(String table) {
        for (Method method : DoubleTexts.class.getDeclaredMethods()) {
            if (java.lang.reflect.Modifier.isPublic(method.getModifiers())) {
                String row = "| `" + method.getReturnType() + " " + method.getName() + "(";
                CHECK.due("a row for " + method.getName(), table.contains(row), true);
            }
        }
    }

    private static void texts(String table) {
        int found = 0;
        for (String row : table.lines().filter(line -> line.startsWith("| `")).toList()) {
            String[] cells = row.split("\\|");
            Matcher quoted = QUOTED.matcher(cells[1]);
            for (; quoted.find(); found++) {
                boolean exact = quoted.group(1).startsWith("#e")
                    || !quoted.group(1).contains("#i") && !quoted.group(1).replace("#x", "").matches(".*[.eE].*");
                CHECK.due("read() of " + quoted.group(1), Subject.typed(quoted.group(1)).read(), exact ? 1 : 2);
            }
        }
        CHECK.due("texts of the table", found > 0, true);
    }

    /** What is told as a way of writing is read and written as the same. */
    private static void written(String list) {
        Matcher quoted = QUOTED.matcher(list);
        int found = 0;
        for (; quoted.find(); found++) {
            CHECK.due("write(10) of " + quoted.group(1), Subject.having(quoted.group(1)).written(10), quoted.group(1));
        }
        CHECK.due("texts of the list", found > 0, true);
    }
}
