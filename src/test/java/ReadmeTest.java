import java.io.IOException;
import java.lang.reflect.Method;
import java.lang.reflect.Modifier;
import java.nio.file.Files;
import java.nio.file.Path;
import java.util.Collections;
import java.util.List;
import java.util.Map;
import java.util.regex.Matcher;
import java.util.regex.Pattern;
import java.util.stream.Stream;

/** README.md is held to the class: its examples answer what they say, every call and every test is named there. */
public final class ReadmeTest {
    private static final Pattern BLOCK = Pattern.compile("(?s)```java\n(.*?)```");
    private static final Pattern TEXT = Pattern.compile("String text = \"([^\"]*)\";");
    private static final Pattern CALL = Pattern.compile("x\\.(\\w+)\\(([-\\d, ]*)\\);\\s*// (-?\\w+):.*");
    private static final Map<String, Integer> NAMES = Map.of("NONE", Check.NONE, "UNKNOWN", Check.UNKNOWN,
            "OUTSIDE", Check.OUTSIDE, "NOT", Check.NOT, "FULL", Check.FULL);
    private static final Check check = new Check();

    public static void main(String[] args) throws IOException, ReflectiveOperationException {
        String page = Files.readString(Path.of("README.md"));
        theExamples(page);
        everyCallIsNamed(page);
        everyTestIsNamed(page);
        check.end();
    }

    /** The examples are one run on one object, from the first block to the last. */
    private static void theExamples(String page) throws ReflectiveOperationException {
        TowedBack x = new TowedBack();
        String text = "";
        int answers = 0;
        Matcher block = BLOCK.matcher(page);
        while (block.find()) {
            for (String line : block.group(1).split("\n")) {
                Matcher told = TEXT.matcher(line);
                Matcher call = CALL.matcher(line);
                if (told.find()) text = told.group(1);
                else if (line.contains("x.feed(text.charAt(k))")) feedAll(x, text);
                else if (call.matches()) answers += asSaid(x, call);
                else if (line.startsWith("x.")) check.due("an answer in README.md for " + line, 0, 1);
            }
        }
        check.due("examples in README.md", answers > 0 ? 1 : 0, 1);
    }

    private static void feedAll(TowedBack x, String text) {
        for (int k = 0; k < text.length(); k++) x.feed(text.charAt(k));
    }

    private static int asSaid(TowedBack x, Matcher call) throws ReflectiveOperationException {
        String[] told = call.group(2).isEmpty() ? new String[0] : call.group(2).split(", ");
        Class<?>[] kinds = new Class<?>[told.length];
        Object[] numbers = new Object[told.length];
        for (int k = 0; k < told.length; k++) {
            kinds[k] = int.class;
            numbers[k] = Integer.valueOf(told[k]);
        }
        int got = (Integer) TowedBack.class.getMethod(call.group(1), kinds).invoke(x, numbers);
        String said = call.group(3);
        check.due("README.md: " + call.group(), got, NAMES.containsKey(said) ? NAMES.get(said) : Integer.parseInt(said));
        return 1;
    }

    /** As `name(..)` with as many parameters as it has. */
    private static void everyCallIsNamed(String page) {
        for (Method method : TowedBack.class.getDeclaredMethods()) {
            if (!Modifier.isPublic(method.getModifiers())) continue;
            String parameters = String.join(", ", Collections.nCopies(method.getParameterCount(), "\\w+"));
            boolean named = Pattern.compile("`" + method.getName() + "\\(" + parameters + "\\)`").matcher(page).find();
            check.due("README.md names " + method.getName(), named ? 1 : 0, 1);
        }
    }

    private static void everyTestIsNamed(String page) throws IOException {
        List<Path> files;
        try (Stream<Path> found = Files.list(Path.of("src/test/java"))) {
            files = found.filter(path -> path.toString().endsWith("Test.java")).sorted().toList();
        }
        for (Path file : files) {
            String name = file.getFileName().toString().replace(".java", "");
            check.due("README.md names " + name, page.contains("`" + name + "`") ? 1 : 0, 1);
        }
    }
}
