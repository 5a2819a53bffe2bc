import java.io.IOException;
import java.lang.reflect.Method;
import java.lang.reflect.Modifier;
import java.nio.file.Files;
import java.nio.file.Path;

/** What README.md shows of the class is what the class answers. .ci/run starts it in the project's directory. */
public final class ReadmeTest {
    private static String readme;
    private static int wrong = 0;

    private static void mustBe(boolean holds, String what) {
        if (!holds) {
            wrong++;
            System.out.println("not so: " + what);
        }
    }

    /** The example has the call, with the answer behind it. */
    private static void shows(String call, long got, String answer) {
        String told = got == TideVault.LOST ? "LOST" : Long.toString(got);
        mustBe(told.equals(answer), call + " answered " + told + ", README.md says " + answer);
        boolean found = readme.lines().anyMatch(line ->
            line.startsWith("vault." + call + ";") && line.matches(".*// " + answer + "(:.*)?"));
        mustBe(found, "README.md shows " + call + " with " + answer);
    }

    private static void example() {
        TideVault vault = new TideVault();
        shows("make(0, 5, 3)", vault.make(0, 5, 3), "1");
        shows("make(1, 8, 3)", vault.make(1, 8, 3), "1");
        shows("fill(0, 2, 7)", vault.fill(0, 2, 7), "3");
        shows("carry(0, 0, 1, 0, 3, 5)", vault.carry(0, 0, 1, 0, 3, 5), "3");
        shows("sum(0, true)", vault.sum(0, true), "21");
        shows("sum(1, false)", vault.sum(1, false), "4626604192193052672");
        shows("read(1, 0, 5)", vault.read(1, 0, 5), "LOST");
        shows("lift(0, 2)", vault.lift(0, 2), "1");
        shows("lay(1, 3)", vault.lay(1, 3), "-13");
        shows("told(2)", vault.told(2), "1");
        mustBe(readme.lines().filter(line -> line.startsWith("vault.")).count() == 10, "the example has no other call");
    }

    private static void eighths() {
        TideVault vault = new TideVault();
        vault.grip(7, 12);
        mustBe(vault.hand(1) == Float.floatToIntBits(1.5f), "a FLOAT of 1.5 is given as 12");
        vault.grip(8, 12);
        mustBe(vault.hand(1) == Double.doubleToLongBits(1.5), "a DOUBLE of 1.5 is given as 12");
    }

    private static void everyCallIsNamed() {
        for (Method method : TideVault.class.getDeclaredMethods()) {
            if (Modifier.isPublic(method.getModifiers())) {
                mustBe(readme.contains("| `" + method.getName() + "("), "the table of calls has " + method.getName());
            }
        }
    }

    public static void main(String[] args) throws IOException {
        readme = Files.readString(Path.of("README.md"));
        example();
        eighths();
        everyCallIsNamed();
        System.out.println(wrong == 0 ? "README.md is as due" : wrong + " things in README.md are not as due");
        if (wrong != 0) {
            System.exit(1);
        }
    }
}
