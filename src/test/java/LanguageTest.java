import java.io.IOException;
import java.lang.reflect.Field;
import java.lang.reflect.Method;
import java.lang.reflect.Modifier;
import java.nio.file.Files;
import java.nio.file.Path;
import java.util.ArrayList;
import java.util.List;
import java.util.Set;
import java.util.regex.Matcher;
import java.util.regex.Pattern;

/**
 * The rules of LANGUAGE.md that can be told from the source and from the classes, by number.
 * .ci/run starts it in the project's directory.
 */
public final class LanguageTest {
    private static final Set<String> BARRED = Set.of("package", "import", "throw", "throws", "try", "catch", "finally",
        "synchronized", "assert", "yield", "native", "volatile", "transient", "strictfp", "Object", "equals", "hashCode",
        "toString", "getClass", "NaN", "Double", "Float", "goto", "protected", "var");
    /** All that the class uses of the library; LANGUAGE.md lets in more. */
    private static final Set<String> LIBRARY = Set.of("Math.min", "Long.MIN_VALUE", "Integer.MIN_VALUE");
    private static final Set<Class<?>> STATIC_TYPES =
        Set.of(int.class, long.class, boolean.class, char.class, String.class, int[].class, long[].class, char[].class,
            byte[].class);
    private static final int MOST_PARAMETERS = 7, MOST_LINES = 60, MOST_CLASSES = 12, MOST_FIELDS = 20, MOST_DEEP = 8;

    private static int wrong = 0;

    private static void mustBe(boolean holds, String what) {
        if (!holds) {
            wrong++;
            System.out.println("not so: " + what);
        }
    }

    private static String withoutComments(String source) {
        return source.replaceAll("(?s)/\\*.*?\\*/", " ").replaceAll("//[^\n]*", " ");
    }

    private static void words(String code) {
        Matcher word = Pattern.compile("[A-Za-z_]\\w*").matcher(code);
        while (word.find()) {
            mustBe(!BARRED.contains(word.group()), "rules 3, 4, 6: the word " + word.group() + " is not used");
        }
        mustBe(!code.contains("->"), "rule 2: no lambda");
        mustBe(!code.contains("::"), "rule 2: no method reference");
        mustBe(!code.contains("@"), "rule 4: no annotation");
        mustBe(!code.contains("\""), "rule 10: no texts at all");
        mustBe(!code.contains("%"), "rules 3, 7: no remainder, of a double or by 0");
        mustBe(code.chars().allMatch(c -> c < 128), "rule 3: no characters beyond 255");
    }

    private static void library(String code, Set<String> own) {
        Matcher use = Pattern.compile("\\b([A-Z]\\w*)\\.(\\w+)").matcher(code);
        while (use.find()) {
            mustBe(own.contains(use.group(1)) || LIBRARY.contains(use.group()), "rule 4: " + use.group() + " is let in");
        }
    }

    /** A divisor is a constant that is not 0. */
    private static void divisors(String code) {
        Matcher division = Pattern.compile("/\\s*([^\\s;)]*)").matcher(code);
        while (division.find()) {
            mustBe(division.group(1).matches("(2\\.0|8\\.0f?)"), "rule 7: the divisor " + division.group(1) + " is not 0");
        }
    }

    private static void shapes(List<Class<?>> classes) {
        mustBe(classes.size() <= MOST_CLASSES, "rule 11: at most " + MOST_CLASSES + " classes");
        for (Class<?> type : classes) {
            mustBe(type == TideVault.class || Modifier.isStatic(type.getModifiers()), "rule 2: " + type + " is static");
            mustBe(!type.isAnonymousClass() && !type.isLocalClass(), "rule 2: " + type + " is a member class");
            fields(type);
            for (Method method : type.getDeclaredMethods()) {
                mustBe(method.getParameterCount() <= MOST_PARAMETERS, "rule 11: the parameters of " + method);
            }
        }
    }

    private static void fields(Class<?> type) {
        int own = 0;
        for (Field field : type.getDeclaredFields()) {
            if (!Modifier.isStatic(field.getModifiers())) {
                own++;
                continue;
            }
            mustBe(Modifier.isFinal(field.getModifiers()), "rule 5: " + field + " is final");
            mustBe(STATIC_TYPES.contains(field.getType()), "rule 5: the type of " + field);
        }
        mustBe(own <= MOST_FIELDS, "rule 11: " + type + " has at most " + MOST_FIELDS + " fields");
    }

    /** Names of methods (a constructor by its class's name), each with its body; lengths are looked at on the way. */
    private static List<String[]> bodies(String code) {
        List<String[]> bodies = new ArrayList<>();
        Matcher method = Pattern.compile("(?m)^((?: {4}){1,2})(?!switch|for|if|while)[\\w\\[\\] ]*?(\\w+)\\([^)]*\\) \\{$").matcher(code);
        while (method.find()) {
            int end = code.indexOf("\n" + method.group(1) + "}", method.end());
            String body = end < 0 ? "" : code.substring(method.end(), end);
            mustBe(end >= 0, "the end of " + method.group(2) + " is found");
            mustBe(body.lines().count() + 1 <= MOST_LINES, "rule 11: " + method.group(2) + " is short");
            bodies.add(new String[] {method.group(2), body});
        }
        return bodies;
    }

    /** How many calls stand open at once below a method; methods of one name count as one. */
    private static int depth(String name, List<String[]> bodies, int above) {
        if (above > MOST_DEEP) {
            return above;
        }
        int deepest = above;
        for (String[] body : bodies) {
            if (!body[0].equals(name)) {
                continue;
            }
            for (String[] other : bodies) {
                if (Pattern.compile("\\b" + other[0] + "\\(").matcher(body[1]).find()) {
                    deepest = Math.max(deepest, depth(other[0], bodies, above + 1));
                }
            }
        }
        return deepest;
    }

    private static void calls(List<String[]> bodies) {
        for (String[] body : bodies) {
            mustBe(depth(body[0], bodies, 1) <= MOST_DEEP, "rules 8, 11: calls from " + body[0] + " go at most eight deep");
        }
    }

    private static List<Class<?>> classes() {
        return List.of(TideVault.class.getNestMembers());
    }

    public static void main(String[] args) throws IOException {
        String code = withoutComments(Files.readString(Path.of("src/main/java/TideVault.java")));
        List<Class<?>> classes = classes();
        List<String> own = new ArrayList<>();
        classes.forEach(type -> own.add(type.getSimpleName()));
        words(code);
        library(code, Set.copyOf(own));
        divisors(code);
        shapes(classes);
        List<String[]> bodies = bodies(code);
        // Records and enums bring methods without a body of their own; there are none here.
        int methods = 0;
        for (Class<?> type : classes) {
            methods += type.getDeclaredMethods().length;
        }
        long named = bodies.stream().filter(body -> !own.contains(body[0])).count();
        mustBe(named == methods, "every method is looked at: " + named + " of " + methods);
        calls(bodies);
        System.out.println(wrong == 0 ? "the language is kept" : wrong + " rules are not kept");
        if (wrong != 0) {
            System.exit(1);
        }
    }
}
