import java.lang.reflect.Field;
import java.lang.reflect.Method;
import java.lang.reflect.Modifier;
import java.nio.file.Files;
import java.nio.file.Path;
import java.util.TreeSet;
import java.util.regex.Matcher;
import java.util.regex.Pattern;

/** README.md holds: its example answers as it says, and its tables name every call, every error and every test. */
public final class ReadmeTest {
    private static final Due D = new Due();
    private static final Pattern CALL = Pattern.compile("strings\\.(\\w+)\\(([^)]*)\\);\\s*// (-?\\d+)\\b.*");
    private static final Pattern TEXT = Pattern.compile("for \\(char (\\w+) : \"([^\"]*)\"\\.toCharArray\\(\\)\\) \\{");
    private static final Pattern CALL_IN_TABLE = Pattern.compile("(?m)^\\| `(\\w+)\\(([^)]*)\\)` \\| \\S");
    private static final Pattern ERROR_IN_TABLE = Pattern.compile("(?m)^\\| `([A-Z_]+)` \\| (-\\d+) \\| \\S");
    private static final Pattern TEST_IN_TABLE = Pattern.compile("(?m)^\\| `(\\w+Test)` \\| \\S");

    public static void main(String[] args) throws Exception {
        String page = Files.readString(Path.of("README.md"));
        example(page);
        callsInTable(page);
        errorsInTable(page);
        testsInTable(page);
        D.end();
    }

    private static void same(String name, Object found, Object due) {
        D.due(name + " " + found + " for " + due, found.equals(due) ? 0 : 1, 0);
    }

    private static void example(String page) throws Exception {
        String from = page.substring(page.indexOf("```java\n") + "```java\n".length());
        String[] lines = from.substring(0, from.indexOf("```")).split("\n");
        same("the first line", lines[0], "FrettedStrings strings = new FrettedStrings();");
        FrettedStrings strings = new FrettedStrings();
        int line = 1;
        while (line < lines.length) {
            Matcher call = CALL.matcher(lines[line]);
            Matcher text = TEXT.matcher(lines[line]);
            if (call.matches()) {
                D.due(lines[line], answer(strings, call.group(1), call.group(2)), Integer.parseInt(call.group(3)));
                line++;
            } else if (text.matches() && line + 2 < lines.length) {
                same("the loop", lines[line + 1].strip(), "strings.type(" + text.group(1) + ");");
                for (char sign : text.group(2).toCharArray()) {
                    strings.type(sign);
                }
                line += 3;
            } else {
                same("the line", lines[line], "a call with its answer");
                line++;
            }
        }
    }

    private static int answer(FrettedStrings strings, String name, String arguments) throws Exception {
        String[] words = arguments.isEmpty() ? new String[0] : arguments.split(", ");
        Object[] numbers = new Object[words.length];
        Class<?>[] types = new Class<?>[words.length];
        for (int i = 0; i < words.length; i++) {
            numbers[i] = Integer.valueOf(words[i]);
            types[i] = int.class;
        }
        return (int) FrettedStrings.class.getMethod(name, types).invoke(strings, numbers);
    }

    private static void callsInTable(String page) {
        TreeSet<String> due = new TreeSet<>();
        for (Method method : FrettedStrings.class.getDeclaredMethods()) {
            if (Modifier.isPublic(method.getModifiers())) {
                due.add(method.getName() + " " + method.getParameterCount());
            }
        }
        TreeSet<String> found = new TreeSet<>();
        Matcher row = CALL_IN_TABLE.matcher(page);
        while (row.find()) {
            found.add(row.group(1) + " " + (row.group(2).isEmpty() ? 0 : row.group(2).split(", ").length));
        }
        same("the calls", found, due);
    }

    private static void errorsInTable(String page) throws Exception {
        TreeSet<String> due = new TreeSet<>();
        for (Field field : FrettedStrings.class.getDeclaredFields()) {
            if (Modifier.isPublic(field.getModifiers())) {
                due.add(field.getName() + field.getInt(null));
            }
        }
        TreeSet<String> found = new TreeSet<>();
        Matcher row = ERROR_IN_TABLE.matcher(page);
        while (row.find()) {
            found.add(row.group(1) + row.group(2));
        }
        same("the errors", found, due);
    }

    private static void testsInTable(String page) {
        TreeSet<String> due = new TreeSet<>();
        for (String name : Path.of("tests").toFile().list()) {
            if (name.endsWith("Test.java")) {
                due.add(name.substring(0, name.length() - ".java".length()));
            }
        }
        TreeSet<String> found = new TreeSet<>();
        Matcher row = TEST_IN_TABLE.matcher(page);
        while (row.find()) {
            found.add(row.group(1));
        }
        same("the tests", found, due);
    }
}
