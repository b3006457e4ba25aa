import java.lang.reflect.Method;
import java.util.Arrays;
import java.util.HashMap;
import java.util.Map;

/** A CodeCover and a PlainCover that get the same calls; where they differ is told. */
final class Twins {
    private static final Map<String, Method> MINE = methods(CodeCover.class);
    private static final Map<String, Method> PLAIN = methods(PlainCover.class);
    static int wrong;
    static int calls;

    private final CodeCover mine = new CodeCover();
    private final PlainCover plain = new PlainCover();
    private final StringBuilder story = new StringBuilder();

    private static Map<String, Method> methods(Class<?> c) {
        Map<String, Method> all = new HashMap<>();
        for (Method m : c.getDeclaredMethods()) {
            all.put(m.getName() + "/" + m.getParameterCount(), m);
        }
        return all;
    }

    private static int ask(Map<String, Method> methods, Object object, String name, int[] numbers) {
        Object[] args = new Object[numbers.length];
        for (int i = 0; i < args.length; i++) {
            args[i] = numbers[i];
        }
        try {
            return (Integer) methods.get(name + "/" + args.length).invoke(object, args);
        } catch (ReflectiveOperationException e) {
            throw new IllegalStateException(name + Arrays.toString(numbers) + " of " + object.getClass(), e);
        }
    }

    /** What both answered; CodeCover's answer, if they differ. */
    int call(String name, int... args) {
        int got = ask(MINE, mine, name, args);
        int want = ask(PLAIN, plain, name, args);
        calls++;
        String told = name + Arrays.toString(args);
        story.append(told).append(' ');
        if (got != want) {
            wrong++;
            if (wrong <= 5) {
                System.out.println(told + " answered " + got + ", due is " + want + "; the run: " + story);
            }
        }
        return got;
    }

    void sayAll(String text) {
        for (int i = 0; i < text.length(); i++) {
            call("say", text.charAt(i));
        }
    }

    static void finish(String name) {
        System.out.println(name + ": " + calls + " calls, " + wrong + " answers not as due");
        if (wrong != 0) {
            System.exit(1);
        }
    }
}
