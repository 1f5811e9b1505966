import java.io.File;
import java.io.IOException;
import java.lang.reflect.InvocationTargetException;
import java.lang.reflect.Method;
import java.lang.reflect.Modifier;
import java.nio.file.Files;
import java.nio.file.Path;
import java.util.regex.Matcher;
import java.util.regex.Pattern;

/** What README.md says is so. */
public final class ReadmeTest {
    private static final Checks CHECKS = new Checks();
    private static final Pattern EXAMPLE = Pattern.compile("(?m)^x\\.(\\w+)\\(([^)]*)\\);\\s*// (-?\\d+):");

    public static void main(String[] args) throws IOException, ReflectiveOperationException {
        String readme = Files.readString(Path.of("README.md"));
        examples(readme);
        namesEachCall(readme);
        namesEachTest(readme);
        endOfAnEmptySubject();
        noteThatComesFirst();
        restThatComesFirst();
        offAtAnyTime();
        stepsAfterTooMany();
        CHECKS.finish();
    }

    private static void examples(String readme) throws ReflectiveOperationException {
        CanonMaker x = new CanonMaker();
        Matcher example = EXAMPLE.matcher(readme);
        int calls = 0;
        while (example.find()) {
            calls++;
            long got = call(x, example.group(1), example.group(2));
            CHECKS.due("README.md: " + example.group(), got, Long.parseLong(example.group(3)));
        }
        CHECKS.due("README.md: examples that tell no answer", lines(readme, "x.") - calls, 0);
        CHECKS.due("README.md: there are examples", calls > 0 ? 1 : 0, 1);
    }

    private static long lines(String readme, String beginning) {
        return readme.lines().filter(line -> line.startsWith(beginning)).count();
    }

    private static int call(CanonMaker x, String name, String arguments)
            throws IllegalAccessException, InvocationTargetException {
        String[] told = arguments.isEmpty() ? new String[0] : arguments.split(", ");
        Object[] values = new Object[told.length];
        for (int i = 0; i < told.length; i++) {
            values[i] = Integer.valueOf(told[i]);
        }
        for (Method m : CanonMaker.class.getDeclaredMethods()) {
            boolean meant = Modifier.isPublic(m.getModifiers()) && m.getName().equals(name);
            if (meant && m.getParameterCount() == told.length) {
                return (int) m.invoke(x, values);
            }
        }
        throw new IllegalArgumentException("README.md: no such call " + name + "(" + arguments + ")");
    }

    private static void namesEachCall(String readme) {
        for (Method m : CanonMaker.class.getDeclaredMethods()) {
            if (Modifier.isPublic(m.getModifiers())) {
                CHECKS.due("README.md tells of " + m, readme.contains("`" + m.getName() + "`") ? 1 : 0, 1);
            }
        }
    }

    private static void namesEachTest(String readme) {
        for (File test : new File("src/test/java").listFiles()) {
            String name = test.getName().replace(".java", "");
            CHECKS.due("README.md tells of " + name, readme.contains("`" + name + "`") ? 1 : 0, 1);
        }
        Matcher named = Pattern.compile("`(\\w+Test)`").matcher(readme);
        while (named.find()) {
            boolean there = new File("src/test/java/" + named.group(1) + ".java").isFile();
            CHECKS.due("there is " + named.group(1), there ? 1 : 0, 1);
        }
    }

    private static void endOfAnEmptySubject() {
        CanonMaker x = new CanonMaker();
        x.voice(1, 7, 0, 0, 3);
        CHECKS.due("empty subject, delay 7: end()", x.end(), 7);
        CHECKS.due("empty subject, delay 7: at(1, 6)", x.at(1, 6), 1000);
        CHECKS.due("empty subject, delay 7: faults()", x.faults(), 0);
        x.off(1);
        CHECKS.due("empty subject, no voice: end()", x.end(), 0);
    }

    private static void noteThatComesFirst() {
        CanonMaker x = Canons.notes(0, new int[][] {{60, 1}, {62, 9}, {64, 4}});
        x.round(4);
        int[] want = {60, 62, 62, 62};
        for (int t = 0; t < 4; t++) {
            CHECKS.due("line of 14 in a round of 4: at(0, " + t + ")", x.at(0, t), want[t]);
        }
        x.voice(1, 1, 0, 2, 1);
        int[] behind = {64, 64, 64, 64};
        for (int t = 0; t < 4; t++) {
            CHECKS.due("backward in a round of 4: at(1, " + t + ")", x.at(1, t), behind[t]);
        }
    }

    private static void restThatComesFirst() {
        CanonMaker x = Canons.notes(0, new int[][] {{60, 1}, {-1, 1}, {64, 4}});
        x.round(3);
        int[] want = {60, 1000, 64};
        for (int t = 0; t < 3; t++) {
            CHECKS.due("a rest first: at(0, " + t + ")", x.at(0, t), want[t]);
        }
    }

    private static void offAtAnyTime() {
        CanonMaker x = Canons.subject(0, 4, 60);
        CHECKS.due("off: at(1, -1)", x.at(1, -1), 1002);
        CHECKS.due("off: at(1, 3)", x.at(1, 3), 1002);
        CHECKS.due("off: at(1, 4)", x.at(1, 4), 1002);
        CHECKS.due("no such voice: at(4, 4)", x.at(4, 4), 1002);
        CHECKS.due("no such voice: at(-1, -1)", x.at(-1, -1), 1002);
    }

    private static void stepsAfterTooMany() {
        CanonMaker x = Canons.subject(1, 1, -2, -2);
        CHECKS.due("two open notes: solve(1)", x.solve(1), -6);
        CHECKS.due("two open notes: steps()", x.steps(), 1);
        CHECKS.due("two open notes: solve(0)", x.solve(0), -6);
        CHECKS.due("two open notes: steps() of none", x.steps(), 0);
        CHECKS.due("two open notes: solve(2)", x.solve(2), 1);
        CHECKS.due("two open notes: steps() of two", x.steps(), 2);
    }
}
