import java.lang.reflect.InvocationTargetException;
import java.lang.reflect.Method;
import java.util.Arrays;
import java.util.Comparator;

/** What the tests share: answers that are due, pages to begin with, and a page read as one string. */
final class Check {
    private int wrong;

    void due(String call, long got, long want) {
        if (got != want) {
            wrong++;
            System.out.println(call + " answered " + got + ", due is " + want);
        }
    }

    void due(String call, String got, String want) {
        if (!got.equals(want)) {
            wrong++;
            System.out.println(call + " answered \"" + got + "\", due is \"" + want + "\"");
        }
    }

    void end() {
        if (wrong != 0) {
            System.out.println(wrong + " answers are not as due");
            System.exit(1);
        }
    }

    /** Runs every method that is there for a sentence, each with a check of its own, and names the sentences that fail. */
    static void sentences(Class<?> tests) throws IllegalAccessException {
        Method[] methods = tests.getDeclaredMethods();
        Arrays.sort(methods, Comparator.comparing(Method::getName));
        int holding = 0;
        int failing = 0;
        for (Method method : methods) {
            Sentence sentence = method.getAnnotation(Sentence.class);
            if (sentence == null) {
                continue;
            }
            if (holds(method)) {
                holding++;
            } else {
                failing++;
                System.out.println("  so this does not hold (" + method.getName() + "): " + sentence.value());
            }
        }
        System.out.println(holding + " sentences hold, " + failing + " do not");
        if (failing != 0 || holding == 0) {
            System.exit(1);
        }
    }

    private static boolean holds(Method method) throws IllegalAccessException {
        Check check = new Check();
        try {
            method.invoke(null, check);
        } catch (InvocationTargetException e) {
            System.out.println("a call threw " + e.getCause());
            return false;
        }
        return check.wrong == 0;
    }

    static EditorPanels page(String... texts) {
        EditorPanels x = new EditorPanels(100);
        for (String text : texts) {
            sign(x, x.line(), text);
        }
        return x;
    }

    /** A page of n lines "a", by few calls. */
    static EditorPanels pageOf(int n) {
        EditorPanels x = page("a");
        for (int left = n - 1; left > 0; left -= 100) {
            x.command(1, 2, Math.min(left, 100));
        }
        return x;
    }

    static void sign(EditorPanels x, int line, String text) {
        for (int i = 0; i < text.length(); i++) {
            x.sign(line, text.charAt(i));
        }
    }

    static void word(EditorPanels x, String text, boolean to) {
        x.word(0, to);
        for (int i = 0; i < text.length(); i++) {
            x.word(text.charAt(i), to);
        }
    }

    /** All that waiting, undoing and finding leave to be seen, beside the lines' texts. */
    static String counts(EditorPanels x) {
        StringBuilder all = new StringBuilder();
        for (int what = 0; what <= 6; what++) {
            all.append(' ').append(x.count(what));
        }
        return all.toString();
    }

    static String text(EditorPanels x, int line) {
        StringBuilder text = new StringBuilder();
        for (int i = 0; x.at(line, i) != EditorPanels.NONE; i++) {
            text.append((char) x.at(line, i));
        }
        return text.toString();
    }

    /** All lines, each behind a bar. */
    static String texts(EditorPanels x) {
        StringBuilder all = new StringBuilder();
        for (int i = 1; i <= x.lines(); i++) {
            all.append('|').append(text(x, i));
        }
        return all.toString();
    }

    static String repeat(char c, int n) {
        return String.valueOf(c).repeat(n);
    }
}
