import java.io.File;
import java.lang.reflect.Method;
import java.lang.reflect.Modifier;
import java.nio.file.Files;
import java.nio.file.Path;
import java.util.regex.Matcher;
import java.util.regex.Pattern;

/** README.md tells the truth: its calls, its tables of calls and of tests. It is run from the project's root. */
public final class ReadmeTest {
    private static final Check CHECK = new Check("ReadmeTest");
    private static final Pattern CALL = Pattern.compile("x\\.(\\w+)\\(([^)]*)\\);\\s+// (-?\\d+).*");
    private static final Pattern TEXT = Pattern.compile("for \\(char c : \"(.*)\"\\.toCharArray\\(\\)\\) x\\.feed\\(c, 1\\);");

    public static void main(String[] args) throws Exception {
        String page = Files.readString(Path.of("README.md"));
        examples(page);
        names(page);
        CHECK.end();
    }

    private static void examples(String page) throws Exception {
        OneHeavyLoad x = null;
        boolean inCode = false;
        int calls = 0;
        for (String line : page.lines().toList()) {
            Matcher call = CALL.matcher(line);
            Matcher text = TEXT.matcher(line);
            if (line.startsWith("```")) {
                inCode = line.equals("```java");
            } else if (inCode && line.equals("OneHeavyLoad x = new OneHeavyLoad();")) {
                x = new OneHeavyLoad();
            } else if (inCode && text.matches()) {
                Lands.feed(x, text.group(1));
            } else if (inCode && call.matches()) {
                CHECK.due(line, answer(x, call.group(1), call.group(2)), Long.parseLong(call.group(3)));
                calls++;
            } else {
                CHECK.due("a line of code that this test does not know: " + line, inCode ? 1 : 0, 0);
            }
        }
        CHECK.due("there are calls", calls > 0 ? 1 : 0, 1);
    }

    private static long answer(OneHeavyLoad x, String name, String told) throws Exception {
        String[] words = told.isEmpty() ? new String[0] : told.split(", ");
        for (Method m : OneHeavyLoad.class.getDeclaredMethods()) {
            if (m.getName().equals(name)) {
                Object[] values = new Object[words.length];
                for (int i = 0; i < words.length; i++) {
                    values[i] = value(m.getParameterTypes()[i], words[i]);
                }
                return ((Number) m.invoke(x, values)).longValue();
            }
        }
        throw new IllegalArgumentException(name);
    }

    private static Object value(Class<?> sort, String word) {
        if (sort == boolean.class) {
            return Boolean.valueOf(word);
        }
        if (sort == long.class) {
            return Long.valueOf(word);
        }
        return Integer.valueOf(word);
    }

    private static void names(String page) {
        for (Method m : OneHeavyLoad.class.getDeclaredMethods()) {
            if (Modifier.isPublic(m.getModifiers())) {
                CHECK.due("the page names " + m.getName(), page.contains("`" + m.getName() + "`") ? 1 : 0, 1);
            }
        }
        for (String file : new File("src/test/java").list()) {
            if (file.endsWith("Test.java")) {
                String test = file.replace(".java", "");
                CHECK.due("the page names " + test, page.contains("| " + test + " |") ? 1 : 0, 1);
            }
        }
    }
}
