import java.io.IOException;
import java.lang.reflect.Method;
import java.nio.file.Files;
import java.nio.file.Path;
import java.util.Set;
import java.util.TreeSet;
import java.util.regex.Matcher;
import java.util.regex.Pattern;

/** The example of README.md: the number behind a line is what its last call answers. */
public final class ReadmeTest {
    private static final Pattern CALL = Pattern.compile("c\\.(\\w+)\\(([^)]*)\\);");
    private static final Pattern NUMBER = Pattern.compile("// (-?\\d+)\\b");

    private static final CodeCover OBJECT = new CodeCover();
    private static final Set<String> LEFT = new TreeSet<>();
    private static int answers;
    private static int wrong;

    public static void main(String[] args) throws IOException, ReflectiveOperationException {
        for (Method m : CodeCover.class.getMethods()) {
            if (m.getDeclaringClass() == CodeCover.class) {
                LEFT.add(m.getName());
            }
        }
        for (String line : example().split("\n")) {
            follow(line);
        }
        LEFT.removeAll(Set.of("wipe", "clear", "drop"));
        if (!LEFT.isEmpty() || answers < 30) {
            wrong++;
            System.out.println("the example leaves out " + LEFT + " and tells " + answers + " answers");
        }
        System.out.println(answers + " answers, " + wrong + " not as told");
        if (wrong != 0) {
            System.exit(1);
        }
    }

    private static String example() throws IOException {
        String all = Files.readString(Path.of("README.md"));
        int from = all.indexOf("```java\n") + 8;
        return all.substring(from, all.indexOf("```", from));
    }

    private static void follow(String line) throws ReflectiveOperationException {
        Matcher call = CALL.matcher(line);
        int got = 0;
        boolean called = false;
        while (call.find()) {
            got = make(call.group(1), call.group(2));
            called = true;
        }
        Matcher number = NUMBER.matcher(line);
        if (called && number.find()) {
            answers++;
            if (got != Integer.parseInt(number.group(1))) {
                wrong++;
                System.out.println("answered " + got + ": " + line);
            }
        }
    }

    private static int make(String name, String told) throws ReflectiveOperationException {
        String[] texts = told.isEmpty() ? new String[0] : told.split(", ");
        Object[] numbers = new Object[texts.length];
        Class<?>[] types = new Class<?>[texts.length];
        for (int i = 0; i < texts.length; i++) {
            numbers[i] = texts[i].startsWith("'") ? (int) texts[i].charAt(1) : Integer.parseInt(texts[i]);
            types[i] = int.class;
        }
        LEFT.remove(name);
        return (Integer) CodeCover.class.getMethod(name, types).invoke(OBJECT, numbers);
    }
}
