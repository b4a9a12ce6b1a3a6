import java.io.IOException;
import java.lang.reflect.Field;
import java.lang.reflect.Method;
import java.lang.reflect.Modifier;
import java.nio.file.Files;
import java.nio.file.Path;
import java.util.Set;
import java.util.TreeSet;
import java.util.regex.Matcher;
import java.util.regex.Pattern;

/** The rules of LANGUAGE.md that a look at the source and at the class can tell; run from the project's folder. */
public final class RulesTest {
    private static final String FACE = "feed(1) water(0) fault(0) told(1) cut(2) boat(2) step(1) forgive(2) weigh(2) change(2) "
            + "turn(1) drift(1) undo(0) quay(2) where(3) sits(1) round(1) least(3) changes(2) dry(1) towed(1) mercy(2) see(3) "
            + "left(2) look(1) write(2) tear(0) judge(0) seed(1) keep(1) goBack(1)";
    private static final Check check = new Check();

    public static void main(String[] args) throws IOException {
        theFace();
        theConstants();
        theClassesInside();
        String source = Files.readString(Path.of("src/main/java/TowedBack.java"));
        String code = source.replaceAll("(?s)/\\*.*?\\*/", " ").replaceAll("//[^\n]*", " ");
        forbiddenWords(code);
        madeInConstructorsOnly(code);
        check.due("signs above 127", (int) source.chars().filter(sign -> sign > 127).count(), 0);
        check.end();
    }

    private static void theFace() {
        Set<String> due = new TreeSet<>(Set.of(FACE.split(" ")));
        Set<String> found = new TreeSet<>();
        Set<String> names = new TreeSet<>();
        for (Method method : TowedBack.class.getDeclaredMethods()) {
            if (Modifier.isPrivate(method.getModifiers())) continue;
            found.add(method.getName() + "(" + method.getParameterCount() + ")");
            names.add(method.getName());
            check.due(method + " is public", Modifier.isPublic(method.getModifiers()) ? 1 : 0, 1);
            check.due(method + " answers an int", method.getReturnType() == int.class ? 1 : 0, 1);
        }
        if (!due.equals(found)) check.due("the face " + found, 0, 1);
        check.due("constructors", TowedBack.class.getDeclaredConstructors().length, 1);
        check.due("public final", TowedBack.class.getModifiers() & (Modifier.PUBLIC | Modifier.FINAL), Modifier.PUBLIC | Modifier.FINAL);
        for (Method method : TowedBack.class.getDeclaredMethods()) {
            if (Modifier.isPrivate(method.getModifiers()) && names.contains(method.getName())) check.due("private " + method, 0, 1);
        }
    }

    private static void theConstants() {
        int shown = 0;
        for (Field field : TowedBack.class.getDeclaredFields()) {
            if (Modifier.isStatic(field.getModifiers())) check.due(field + " is final", Modifier.isFinal(field.getModifiers()) ? 1 : 0, 1);
            if (!Modifier.isPrivate(field.getModifiers())) shown++;
        }
        check.due("constants that are shown", shown, 5);
        check.due("NONE", TowedBack.NONE, -1);
        check.due("UNKNOWN", TowedBack.UNKNOWN, -1000000001);
        check.due("OUTSIDE", TowedBack.OUTSIDE, -1000000002);
        check.due("NOT", TowedBack.NOT, -1000000003);
        check.due("FULL", TowedBack.FULL, -1000000004);
    }

    private static void theClassesInside() {
        Class<?>[] inside = TowedBack.class.getDeclaredClasses();
        if (inside.length > 11) check.due("classes inside", inside.length, 11);
        for (Class<?> one : inside) {
            check.due(one + " is static", Modifier.isStatic(one.getModifiers()) ? 1 : 0, 1);
            if (one.getDeclaredFields().length > 20) check.due("fields of " + one, one.getDeclaredFields().length, 20);
        }
    }

    private static void forbiddenWords(String code) {
        String words = "throw|throws|try|catch|synchronized|assert|import|package|protected|Exact|hashCode|toString|System\\.out";
        Matcher matcher = Pattern.compile("\\b(" + words + ")\\b|->|::").matcher(code);
        while (matcher.find()) check.due("'" + matcher.group() + "' in the source", 1, 0);
    }

    /** What is made is made once: every 'new' stands in a field's own line or in a constructor. */
    private static void madeInConstructorsOnly(String code) {
        for (String line : code.split("\n")) {
            if (!line.contains("new ")) continue;
            boolean field = line.matches("\\s*(private )?(final )?[A-Za-z]+(\\[\\])? [a-z][A-Za-z]* = new .*;") && !line.startsWith("            ");
            boolean constructor = line.contains("= new int[this.");
            if (!field && !constructor) check.due("made in a call: " + line.trim(), 1, 0);
        }
    }
}
