import java.lang.reflect.InvocationTargetException;
import java.lang.reflect.Method;
import java.util.Arrays;
import java.util.Comparator;

/**
 * What the tests of boundary cases share. Such a test is a static method of its own, named after the section or the
 * promise of DOC.md that its sentence belongs to; the sentence stands above it.
 */
final class Edges {
    static final int NONE = -1;
    static final int GAP = -1000000;
    static final int MAX = Integer.MAX_VALUE;
    static final int MIN = Integer.MIN_VALUE;

    private static String test = "";
    private static int asked;
    private static int wrong;

    private Edges() {
    }

    static void due(String call, int got, int want) {
        asked++;
        if (got != want) {
            wrong++;
            System.out.println(test + ": " + call + " answered " + got + ", due is " + want);
        }
    }

    static void due(String call, boolean got, boolean want) {
        due(call, got ? 1 : 0, want ? 1 : 0);
    }

    /** A text's first fault and its place; number 0: it has none. */
    static void fault(String text, int number, int place) {
        JuneVote x = new JuneVote();
        int size = Typed.feed(x, text);
        due("bytes typed of " + text, size, text.length());
        due("a republic: " + text, x.republic() != NONE, number == 0);
        due("fault of " + text, x.fault(0), number);
        due("its place in " + text, x.fault(1), number == 0 ? NONE : place);
    }

    static void good(String text) {
        fault(text, 0, NONE);
    }

    /** The lengths that may be, one behind the other, as text. */
    static String may(JuneVote x) {
        StringBuilder text = new StringBuilder();
        for (int length = -1; length <= 32; length++) {
            if (x.may(length) == 1) {
                text.append(text.length() == 0 ? "" : " ").append(length);
            }
        }
        return text.toString();
    }

    static void mayBe(String when, JuneVote x, String want) {
        String got = may(x);
        asked++;
        if (!got.equals(want)) {
            wrong++;
            System.out.println(test + ": " + when + " may be " + got + ", due is " + want);
        }
    }

    /** Calls every test of that class by its name; one that asks nothing is wrong. */
    static void runAll(Class<?> tests) {
        Method[] methods = tests.getDeclaredMethods();
        Arrays.sort(methods, Comparator.comparing(Method::getName));
        int ran = 0;
        for (Method method : methods) {
            if (method.getName().matches("(section|promise)\\d.*")) {
                test = method.getName();
                int before = asked;
                call(method);
                if (asked == before) {
                    wrong++;
                    System.out.println(test + " asks nothing");
                }
                ran++;
            }
        }
        System.out.println(ran + " tests, " + asked + " answers looked at, " + wrong + " not as due");
        if (wrong > 0 || ran == 0) {
            System.exit(1);
        }
    }

    private static void call(Method method) {
        try {
            method.setAccessible(true);
            method.invoke(null);
        } catch (InvocationTargetException | IllegalAccessException e) {
            wrong++;
            System.out.println(test + " threw " + e.getCause());
        }
    }
}
