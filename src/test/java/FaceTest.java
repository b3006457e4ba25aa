import java.io.IOException;
import java.lang.reflect.Constructor;
import java.lang.reflect.Field;
import java.lang.reflect.Method;
import java.lang.reflect.Modifier;
import java.nio.file.Files;
import java.nio.file.Path;
import java.util.Set;
import java.util.TreeSet;
import java.util.regex.Matcher;
import java.util.regex.Pattern;

/** The public face of the document, and those rules of LANGUAGE.md that can be looked up. */
public final class FaceTest {
    private static final Path SOURCE = Path.of("src/main/java/CodeCover.java");
    private static final String[] FACE = {
        "about 2", "add 5", "ahead 2", "best 1", "clear 0", "code 2", "cover 3", "crowd 0", "drop 0", "end 0",
        "fault 0", "keep 1", "lives 1", "node 2", "pattern 2", "place 1", "price 2", "read 0", "run 3", "say 1",
        "shortest 2", "sort 0", "spilled 2", "stores 1", "thin 0", "told 1", "weigh 2", "wipe 0"};
    private static int wrong;

    private static void must(boolean right, String what) {
        if (!right) {
            wrong++;
            System.out.println("not so: " + what);
        }
    }

    public static void main(String[] args) throws IOException {
        face();
        for (Class<?> c : CodeCover.class.getDeclaredClasses()) {
            inside(c);
        }
        must(CodeCover.class.getDeclaredClasses().length <= 12, "at most twelve classes");
        words(Files.readString(SOURCE));
        System.out.println(wrong == 0 ? "the face is as due" : wrong + " things are not as due");
        if (wrong != 0) {
            System.exit(1);
        }
    }

    private static void face() {
        Class<?> c = CodeCover.class;
        must(Modifier.isPublic(c.getModifiers()) && Modifier.isFinal(c.getModifiers()), "a public final class");
        Set<String> names = new TreeSet<>();
        for (Method m : c.getDeclaredMethods()) {
            if (!Modifier.isPrivate(m.getModifiers())) {
                names.add(m.getName() + " " + m.getParameterCount());
                must(Modifier.isPublic(m.getModifiers()) && m.getReturnType() == int.class, m + " is public and answers an int");
            }
        }
        must(names.equals(new TreeSet<>(Set.of(FACE))), "the methods of the face: " + names);
        Constructor<?>[] made = c.getDeclaredConstructors();
        must(made.length == 1 && made[0].getParameterCount() == 0 && Modifier.isPublic(made[0].getModifiers()), "one constructor");
        Set<String> constants = new TreeSet<>();
        for (Field f : c.getDeclaredFields()) {
            if (!Modifier.isPrivate(f.getModifiers())) {
                constants.add(f.getName());
                must(f.getType() == int.class, f + " is an int");
            }
        }
        must(constants.equals(Set.of("UNKNOWN", "OUTSIDE", "STATE", "FULL", "NO", "NONE")), "the constants: " + constants);
        fields(c);
    }

    private static void inside(Class<?> c) {
        must(Modifier.isStatic(c.getModifiers()), c + " is static");
        must(!Modifier.isPublic(c.getModifiers()) && !Modifier.isProtected(c.getModifiers()), c + " is hidden");
        for (Method m : c.getDeclaredMethods()) {
            for (String name : FACE) {
                must(!name.startsWith(m.getName() + " "), m + " has no name of the face");
            }
            must(m.getParameterCount() <= 7, m + " takes at most seven");
        }
        fields(c);
    }

    private static void fields(Class<?> c) {
        int held = 0;
        for (Field f : c.getDeclaredFields()) {
            if (Modifier.isStatic(f.getModifiers())) {
                must(Modifier.isFinal(f.getModifiers()), f + " is final");
            } else {
                held++;
            }
        }
        must(held <= 20, c + " has at most twenty fields");
    }

    private static void words(String source) {
        String code = source.replaceAll("(?s)/\\*.*?\\*/", "").replaceAll("//[^\n]*", "");
        Matcher no = Pattern.compile("\\b(throw|throws|try|catch|synchronized|assert|import|package|String)\\b|->|::|Exact\\b").matcher(code);
        while (no.find()) {
            must(false, "no '" + no.group() + "' in the program");
        }
        must(source.chars().allMatch(s -> s < 128), "plain signs alone");
        // A method begins at its head's indent and ends at a brace of the same one.
        Matcher method = Pattern.compile("(?m)^( {4}| {8})(?! )(?!.*\\bclass\\b)[^\n=;]*\\{\n(?:(?!\\1\\}).*\n)*\\1\\}").matcher(source);
        int seen = 0;
        while (method.find()) {
            seen++;
            must(method.group().lines().count() <= 60, "short: " + method.group().lines().findFirst().get());
        }
        must(seen > 80, "methods were found: " + seen);
        // What calls make is never given back: all rows are made with the object.
        Matcher made = Pattern.compile("(?m)^ {12,}.*\\bnew \\w").matcher(code);
        must(!made.find(), "nothing is made in a method of the classes inside");
    }
}
