import java.io.IOException;
import java.lang.reflect.Constructor;
import java.lang.reflect.Field;
import java.lang.reflect.Method;
import java.lang.reflect.Modifier;
import java.nio.file.Files;
import java.nio.file.Path;
import java.util.Set;
import java.util.TreeSet;
import java.util.regex.Pattern;

/** The document's public face, and what the language rules leave out of the class. */
public final class FaceTest {
    private static final Checks CHECKS = new Checks();
    private static final String[] FACE = {"note 2", "pitch 2", "told 2", "cut 1", "size 0", "voice 5", "off 1",
        "span 2", "scale 1", "beat 1", "round 1", "rules 1", "end 0", "at 2", "faults 0", "fault 2", "solve 1",
        "steps 0", "shifts 1", "shift 2"};
    private static final String[] LEFT_OUT = {"\\bthrow\\b", "\\btry\\b", "\\bcatch\\b", "\\bsynchronized\\b",
        "\\bassert\\b", "->", "::", "\\bpackage\\b", "Exact\\(", "MAX_VALUE", "MIN_VALUE", "System\\.(?!arraycopy)",
        "\\bimport (?!java\\.util\\.Arrays;)"};

    public static void main(String[] args) throws IOException {
        publicFace();
        privateNames();
        leftOut();
        CHECKS.finish();
    }

    private static void publicFace() {
        Set<String> want = new TreeSet<>(Set.of(FACE));
        Set<String> got = new TreeSet<>();
        for (Method m : CanonMaker.class.getDeclaredMethods()) {
            if (!Modifier.isPrivate(m.getModifiers())) {
                got.add(m.getName() + " " + m.getParameterCount());
                CHECKS.due(m + " is public", m.getModifiers(), Modifier.PUBLIC);
                CHECKS.due(m + " answers an int", m.getReturnType() == int.class ? 1 : 0, 1);
                for (Class<?> type : m.getParameterTypes()) {
                    CHECKS.due(m + " takes ints", type == int.class ? 1 : 0, 1);
                }
            }
        }
        CHECKS.due("the face is " + got, got.equals(want) ? 1 : 0, 1);
        for (Field f : CanonMaker.class.getDeclaredFields()) {
            CHECKS.due(f + " is private", Modifier.isPrivate(f.getModifiers()) ? 1 : 0, 1);
            boolean changing = Modifier.isStatic(f.getModifiers()) && !Modifier.isFinal(f.getModifiers());
            CHECKS.due(f + " is static and not final", changing ? 1 : 0, 0);
        }
        Constructor<?>[] made = CanonMaker.class.getDeclaredConstructors();
        CHECKS.due("constructors", made.length, 1);
        CHECKS.due("its parameters", made[0].getParameterCount(), 0);
        CHECKS.due("public and final", CanonMaker.class.getModifiers(), Modifier.PUBLIC | Modifier.FINAL);
    }

    private static void privateNames() {
        Set<String> names = new TreeSet<>();
        for (String f : FACE) {
            names.add(f.substring(0, f.indexOf(' ')));
        }
        for (Method m : CanonMaker.class.getDeclaredMethods()) {
            boolean hidden = Modifier.isPrivate(m.getModifiers());
            CHECKS.due(m + " has a public one's name", hidden && names.contains(m.getName()) ? 1 : 0, 0);
        }
        for (Class<?> inside : CanonMaker.class.getDeclaredClasses()) {
            CHECKS.due(inside + " is static", Modifier.isStatic(inside.getModifiers()) ? 1 : 0, 1);
            for (Method m : inside.getDeclaredMethods()) {
                CHECKS.due(m + " has a public one's name", names.contains(m.getName()) ? 1 : 0, 0);
            }
        }
    }

    private static void leftOut() throws IOException {
        String text = Files.readString(Path.of("src/main/java/CanonMaker.java"));
        for (String word : LEFT_OUT) {
            CHECKS.due("found " + word, Pattern.compile(word).matcher(text).find() ? 1 : 0, 0);
        }
    }
}
