import java.lang.reflect.Constructor;
import java.lang.reflect.Field;
import java.lang.reflect.Method;
import java.lang.reflect.Modifier;
import java.nio.file.Files;
import java.nio.file.Path;
import java.util.Set;
import java.util.TreeSet;
import java.util.regex.Matcher;
import java.util.regex.Pattern;

/** The document's face, and those rules of LANGUAGE.md that a test can see. It is run from the project's root. */
public final class LanguageTest {
    private static final Check CHECK = new Check("LanguageTest");

    private static final String FACE = """
        int row(int,int,int)
        int set(int,int,long)
        int copy(int,int,int,int,int)
        long element(int,int)
        int holds(int)
        int show(int,int)
        int says(int,int)
        int road(int,int,int,int,int,int)
        int bridge(int,int,int,int,int)
        int prop(int,int,int)
        int waggon(int,int,int)
        int part(int,int)
        int ask(int,int)
        int stand(int,int,boolean)
        int shut(int,boolean)
        int feed(int,int)
        int wipe()
        int land()
        int roadOf(int,int)
        int bridgeOf(int,int)
        int bears(int,boolean)
        int length(int)
        int axle(int,int)
        int strain(int,int,int)
        int needs(int,int,int)
        int goes(int,int,int,int)
        int cheapest(int,int,int,int)
        int soonest(int,int,int,int)
        int again(int,int,int,int,int)
        int best(int,int,int)
        int judge(int,int,int,int,int)
        int told(int,int,int,int,int,int)
        int reach(int,int,int)
        int hang(int,int,int,int)
        int fewest(int,int,int)
        int most(int,int,int)
        long frost(int,int,int,int,int,int,int)
        int begin(int,int,int,int)
        int step()
        int under(int)
        int image()
        int back()
        int status(int)
        """;

    public static void main(String[] args) throws Exception {
        face();
        constants();
        classes();
        source();
        CHECK.end();
    }

    private static String signature(Method m) {
        StringBuilder s = new StringBuilder(m.getReturnType() + " " + m.getName() + "(");
        for (Class<?> p : m.getParameterTypes()) {
            s.append(s.charAt(s.length() - 1) == '(' ? "" : ",").append(p);
        }
        return s.append(")").toString();
    }

    private static void face() {
        Set<String> want = new TreeSet<>(FACE.lines().toList());
        Set<String> got = new TreeSet<>();
        Set<String> names = new TreeSet<>();
        for (Method m : OneHeavyLoad.class.getDeclaredMethods()) {
            if (Modifier.isPublic(m.getModifiers())) {
                got.add(signature(m));
                names.add(m.getName());
                CHECK.due("static " + m, Modifier.isStatic(m.getModifiers()) ? 1 : 0, 0);
            }
        }
        CHECK.due("the public methods are " + got, got.equals(want) ? 1 : 0, 1);
        for (Method m : OneHeavyLoad.class.getDeclaredMethods()) {
            if (!Modifier.isPublic(m.getModifiers())) {
                CHECK.due(m + " is private, and has a name of its own",
                        Modifier.isPrivate(m.getModifiers()) && !names.contains(m.getName()) ? 1 : 0, 1);
            }
        }
        Constructor<?>[] made = OneHeavyLoad.class.getDeclaredConstructors();
        CHECK.due("constructors", made.length, 1);
        CHECK.due("it is public and takes nothing",
                Modifier.isPublic(made[0].getModifiers()) && made[0].getParameterCount() == 0 ? 1 : 0, 1);
        CHECK.due("the class is public and final", OneHeavyLoad.class.getModifiers(), Modifier.PUBLIC | Modifier.FINAL);
    }

    private static void constants() {
        CHECK.due("NONE", OneHeavyLoad.NONE, -1);
        for (Field f : OneHeavyLoad.class.getDeclaredFields()) {
            boolean isNone = f.getName().equals("NONE");
            CHECK.due(f + " is private", Modifier.isPrivate(f.getModifiers()) ? 1 : 0, isNone ? 0 : 1);
            if (Modifier.isStatic(f.getModifiers())) {
                CHECK.due(f + " is final", Modifier.isFinal(f.getModifiers()) ? 1 : 0, 1);
            }
        }
    }

    private static void classes() {
        Class<?>[] inside = OneHeavyLoad.class.getDeclaredClasses();
        CHECK.due("classes: at most twelve", inside.length <= 11 ? 1 : 0, 1);
        for (Class<?> c : inside) {
            CHECK.due(c + " is static", Modifier.isStatic(c.getModifiers()) ? 1 : 0, 1);
            CHECK.due(c + " is not public", Modifier.isPublic(c.getModifiers()) ? 1 : 0, 0);
            int fields = 0;
            for (Field f : c.getDeclaredFields()) {
                fields += Modifier.isStatic(f.getModifiers()) ? 0 : 1;
            }
            CHECK.due(c + " has at most twenty fields", fields <= 20 ? 1 : 0, 1);
            for (Method m : c.getDeclaredMethods()) {
                CHECK.due(m + " has at most seven parameters", m.getParameterCount() <= 7 ? 1 : 0, 1);
                CHECK.due(m + " has a name of its own", FACE.contains(" " + m.getName() + "(") ? 1 : 0, 0);
            }
        }
    }

    private static void source() throws Exception {
        String text = Files.readString(Path.of("src/main/java/OneHeavyLoad.java"));
        String bare = text.replaceAll("(?s)/\\*.*?\\*/", "").replaceAll("//[^\n]*", "").replaceAll("\"[^\"]*\"", "\"\"");
        String[] words = {"throw", "throws", "try", "catch", "finally", "synchronized", "assert", "import", "package",
            "static\\s*\\{", "->", "::", "\\w+Exact", "(Integer|Long)\\.[A-Z]\\w*", "System\\.(?!arraycopy)", "protected", "volatile",
            "double", "float"};
        for (String word : words) {
            String whole = Character.isLetter(word.charAt(0)) ? "\\b" + word : word;
            Matcher m = Pattern.compile(whole + (Character.isLetter(word.charAt(word.length() - 1)) ? "\\b" : "")).matcher(bare);
            CHECK.due("the source has '" + word + "'", m.find() ? 1 : 0, 0);
        }
        // A run's room is shared by all its calls, so only constructors make objects.
        String end = null;
        int begun = 0;
        boolean inConstructor = false;
        int number = 0;
        for (String line : bare.split("\n")) {
            number++;
            if (end == null && line.matches("\\s+.*\\) \\{")) {
                end = line.replaceAll("\\S.*", "") + "}";
                begun = number;
                inConstructor = line.matches("\\s+(public )?[A-Z]\\w*\\(.*\\) \\{");
            } else if (line.equals(end)) {
                CHECK.due("the method at " + begun + " has at most sixty lines", number - begun < 60 ? 1 : 0, 1);
                end = null;
                inConstructor = false;
            }
            CHECK.due("'new' outside a constructor at " + number, line.matches(".*\\bnew\\b.*") && !inConstructor ? 1 : 0, 0);
        }
    }
}
