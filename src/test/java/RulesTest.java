import java.io.IOException;
import java.lang.reflect.Constructor;
import java.lang.reflect.Field;
import java.lang.reflect.Method;
import java.lang.reflect.Modifier;
import java.nio.charset.StandardCharsets;
import java.nio.file.Files;
import java.nio.file.Path;
import java.util.ArrayList;
import java.util.HashSet;
import java.util.List;
import java.util.Set;
import java.util.regex.Matcher;
import java.util.regex.Pattern;

/** The program's one file keeps to those rules of ../shared/LANGUAGE.md that a look at its text or its classes can tell. */
public final class RulesTest {
    private static final String FILE = "src/main/java/LockStaircase.java";
    private static final Pattern COMMENT = Pattern.compile("/\\*.*?\\*/|//[^\\n]*", Pattern.DOTALL);
    private static final Pattern LIBRARY = Pattern.compile("\\b([A-Z][A-Za-z]*)\\.(\\w+)");
    private static final Pattern CREATED = Pattern.compile("\\bnew\\s+(\\w+)");
    private static final Pattern METHOD = Pattern.compile(
            "^( +)(?:(?:public|private|static|final) )*\\w+(?:\\[\\])? \\w+\\([^;]*\\) \\{\\n(.*?)^\\1\\}", Pattern.DOTALL | Pattern.MULTILINE);
    private static final Set<String> LIBRARY_USED = Set.of("Long.MIN_VALUE", "Math.max", "Math.min", "Integer.bitCount", "System.arraycopy");
    private static final int MOST_CLASSES = 12, MOST_FIELDS = 20, MOST_PARAMETERS = 7, MOST_LINES = 60;

    public static void main(String[] args) throws IOException {
        String text = Files.readString(Path.of(FILE), StandardCharsets.UTF_8);
        String code = COMMENT.matcher(text).replaceAll("");
        List<Class<?>> classes = classes();
        words(code);
        library(code, classes);
        lengths(code);
        for (Class<?> c : classes) {
            shape(c);
        }
        names(classes);
        Check.end("RulesTest");
    }

    private static List<Class<?>> classes() {
        List<Class<?>> all = new ArrayList<>();
        all.add(LockStaircase.class);
        for (int i = 0; i < all.size(); i++) {
            all.addAll(List.of(all.get(i).getDeclaredClasses()));
        }
        Check.holds("at most " + MOST_CLASSES + " classes, there are " + all.size(), all.size() <= MOST_CLASSES);
        return all;
    }

    /** Rules 1, 2, 4, 6: what no line of the code may hold. */
    private static void words(String code) {
        String[] banned = {
            "package", "import", "throw", "throws", "try", "catch", "synchronized", "assert", "hashCode", "Object",
            "protected", "static\\s*\\{",
        };
        for (String word : banned) {
            Check.holds("the code is without " + word, !Pattern.compile("(?<!\\w)" + word + "(?!\\w)").matcher(code).find());
        }
        for (String sign : new String[] {"->", "::", "Exact("}) {
            Check.holds("the code is without " + sign, !code.contains(sign));
        }
        Check.holds("its signs are 1 to 127", code.chars().allMatch(sign -> sign >= 1 && sign <= 127));
    }

    /** Rules 3, 4: of the library only what this program has need of, all of which the rule names. */
    private static void library(String code, List<Class<?>> classes) {
        Set<String> own = new HashSet<>();
        for (Class<?> c : classes) {
            own.add(c.getSimpleName());
        }
        Matcher used = LIBRARY.matcher(code);
        while (used.find()) {
            Check.holds(used.group() + " is in the rule", own.contains(used.group(1)) || LIBRARY_USED.contains(used.group()));
        }
        Matcher created = CREATED.matcher(code);
        while (created.find()) {
            Check.holds("new " + created.group(1) + " is a row or its own",
                    own.contains(created.group(1)) || Set.of("int", "boolean").contains(created.group(1)));
        }
    }

    /** Rule 11: methods stay short. */
    private static void lengths(String code) {
        int seen = 0;
        Matcher method = METHOD.matcher(code);
        while (method.find()) {
            seen++;
            long lines = method.group(2).lines().count();
            Check.holds("a method of " + lines + " lines: " + method.group().lines().findFirst().orElse(""), lines <= MOST_LINES);
        }
        Check.holds("methods are found in the text, " + seen + " were", seen > 100);
    }

    /** Rules 2, 5, 11: of one class. */
    private static void shape(Class<?> c) {
        boolean outermost = c == LockStaircase.class;
        int m = c.getModifiers();
        Check.holds(c + " is static, and not public", outermost || Modifier.isStatic(m) && !Modifier.isPublic(m));
        int fields = 0;
        for (Field f : c.getDeclaredFields()) {
            boolean constant = Modifier.isStatic(f.getModifiers());
            fields += constant ? 0 : 1;
            Check.holds(f + " is final", !constant || Modifier.isFinal(f.getModifiers()));
        }
        Check.holds(c + " has " + fields + " fields", fields <= MOST_FIELDS);
        for (Method each : c.getDeclaredMethods()) {
            Check.holds(each + " takes few", each.getParameterCount() <= MOST_PARAMETERS);
        }
        for (Constructor<?> each : c.getDeclaredConstructors()) {
            Check.holds(each + " takes few", each.getParameterCount() <= MOST_PARAMETERS);
        }
    }

    /** Rule 1: no private method bears the name of a public one. */
    private static void names(List<Class<?>> classes) {
        Set<String> face = new HashSet<>();
        for (Method m : LockStaircase.class.getDeclaredMethods()) {
            if (Modifier.isPublic(m.getModifiers())) {
                face.add(m.getName());
            }
        }
        for (Class<?> c : classes) {
            for (Method m : c.getDeclaredMethods()) {
                Check.holds(m + " has a name of its own", Modifier.isPublic(m.getModifiers()) || !face.contains(m.getName()));
            }
        }
    }
}
