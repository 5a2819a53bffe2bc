import java.lang.reflect.Constructor;
import java.lang.reflect.Field;
import java.lang.reflect.Method;
import java.lang.reflect.Modifier;
import java.util.Set;
import java.util.TreeSet;

/** The face of the class is the document's and nothing else can be seen from outside. */
public final class FaceTest {
    private static final Set<String> METHODS = Set.of(
        "int make(int, int, int)", "int share(int, int)", "int kind(int)", "int length(int)",
        "long read(int, int, int)", "int set(int, int, int, long)", "int profile(int, int)", "int grip(int, long)",
        "int lift(int, int)", "int lay(int, int)", "int swap(int, boolean)", "long hand(int)",
        "int carry(int, int, int, int, int, int)", "int went()", "int fill(int, int, long)",
        "long sum(int, boolean)", "int crest(int)", "int differ(int, int)", "int height(int, int)", "int told(int)");
    private static final Set<String> CONSTANTS = Set.of("int UNKNOWN", "int OUTSIDE", "int FULL", "long LOST");
    private static final Set<String> PUBLIC_NAMES = new TreeSet<>();

    private static int wrong = 0;

    private static void mustBe(boolean holds, String what) {
        if (!holds) {
            wrong++;
            System.out.println("not so: " + what);
        }
    }

    private static String told(Method method) {
        StringBuilder text = new StringBuilder(method.getReturnType() + " " + method.getName() + "(");
        String between = "";
        for (Class<?> type : method.getParameterTypes()) {
            text.append(between).append(type);
            between = ", ";
        }
        return text.append(")").toString();
    }

    private static void methods() {
        Set<String> open = new TreeSet<>();
        for (Method method : TideVault.class.getDeclaredMethods()) {
            if (!Modifier.isPrivate(method.getModifiers())) {
                open.add(told(method));
                PUBLIC_NAMES.add(method.getName());
                mustBe(Modifier.isPublic(method.getModifiers()), method + " is public");
                mustBe(!Modifier.isStatic(method.getModifiers()), method + " is not static");
            }
        }
        mustBe(open.equals(METHODS), "the methods are the document's: " + open);
        privateNames(TideVault.class);
    }

    private static void privateNames(Class<?> type) {
        for (Method method : type.getDeclaredMethods()) {
            mustBe(Modifier.isPublic(method.getModifiers()) || !PUBLIC_NAMES.contains(method.getName()),
                method + " does not bear a public method's name");
        }
    }

    private static void fields(Class<?> type) {
        Set<String> open = new TreeSet<>();
        for (Field field : type.getDeclaredFields()) {
            int modifiers = field.getModifiers();
            mustBe(!Modifier.isStatic(modifiers) || Modifier.isFinal(modifiers), field + " is no static state");
            if (!Modifier.isPrivate(modifiers)) {
                open.add(field.getType() + " " + field.getName());
            }
        }
        if (type == TideVault.class) {
            mustBe(open.equals(CONSTANTS), "the constants are the document's: " + open);
        }
    }

    public static void main(String[] args) {
        Constructor<?>[] constructors = TideVault.class.getDeclaredConstructors();
        mustBe(constructors.length == 1 && Modifier.isPublic(constructors[0].getModifiers())
            && constructors[0].getParameterCount() == 0, "one public constructor without parameters");
        mustBe(Modifier.isFinal(TideVault.class.getModifiers()), "the class is final");
        methods();
        fields(TideVault.class);
        for (Class<?> inside : TideVault.class.getDeclaredClasses()) {
            mustBe(Modifier.isStatic(inside.getModifiers()), inside + " is static");
            mustBe(!Modifier.isPublic(inside.getModifiers()), inside + " is not public");
            privateNames(inside);
            fields(inside);
        }
        System.out.println(wrong == 0 ? "the face is as due" : wrong + " things of the face are not as due");
        if (wrong != 0) {
            System.exit(1);
        }
    }
}
