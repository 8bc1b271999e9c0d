import java.io.IOException;
import java.nio.file.Files;
import java.nio.file.Path;

// What the tests of the project share: the comparing of answers, texts typed,
// and the sentences of the document that the answers are due by.
final class Due {
    static final int INVALID = -2000000001;
    static final int IMPOSSIBLE = -2000000002;
    static final int LIMIT = -2000000003;
    static final int NONE = -2000000004;
    static final int[] ODD = {-1, Integer.MIN_VALUE, Integer.MAX_VALUE, 1000000, -1000000};

    private static int wrong = 0;
    private static int asked = 0;
    private static String document = "";
    private static String sentence = "";

    private Due() {
    }

    // The path of the document is the first argument of a test that tells sentences;
    // without the document they are not compared with it.
    static void document(String[] args) throws IOException {
        if (args.length > 0 && Files.isReadable(Path.of(args[0]))) {
            document = Files.readString(Path.of(args[0])).replaceAll("\\s+", " ");
        }
    }

    // The next answers are due by these words, which have to stand in the document.
    static void says(String words) {
        sentence = words;
        is("the document says it", document.isEmpty() || document.contains(words) ? 1 : 0, 1);
    }

    static void is(String what, long got, long want) {
        asked++;
        if (got != want) {
            wrong++;
            System.out.println(what + ": answered " + got + ", due is " + want);
            if (!sentence.isEmpty()) {
                System.out.println("    by: " + sentence);
            }
        }
    }

    static void type(PathTracker t, String text) {
        for (int k = 0; k < text.length(); k++) {
            t.type(text.charAt(k));
        }
    }

    static PathTracker of(String first, String second) {
        return with(first, second);
    }

    // The settings are told as what, value, what, value, and so on.
    static PathTracker with(String first, String second, int... settings) {
        PathTracker t = new PathTracker();
        set(t, settings);
        type(t, first);
        is("an equation stands: " + first, t.equation(0) > 0 ? 1 : 0, 1);
        type(t, second);
        is("an equation stands: " + second, t.equation(1) > 0 ? 1 : 0, 1);
        return t;
    }

    static void set(PathTracker t, int... settings) {
        for (int k = 0; k + 1 < settings.length; k += 2) {
            is("set(" + settings[k] + ", " + settings[k + 1] + ") is taken", t.set(settings[k], settings[k + 1]) < -16 ? 1 : 0, 0);
        }
    }

    static void path(PathTracker t, int path, int... want) {
        for (int what = 0; what < want.length; what++) {
            is("path(" + path + ", " + what + ")", t.path(path, what), want[what]);
        }
    }

    // The four parts of the point of a path, in thousandths.
    static void point(PathTracker t, int path, int... want) {
        for (int part = 0; part < want.length; part++) {
            is("path(" + path + ", " + (part + 7) + ")", t.path(path, part + 7), want[part]);
        }
    }

    static void coefficient(PathTracker t, int equation, int i, int j, int re, int im) {
        is("re of x^" + i + " y^" + j, t.coefficient(equation, i, j, 0), re);
        is("im of x^" + i + " y^" + j, t.coefficient(equation, i, j, 1), im);
    }

    // All that can be asked without a change, in one row.
    static int[] seen(PathTracker t) {
        int[] seen = new int[19 + 1 + 1 + 9 * 14 + 2 * 4 * 4 * 2];
        int next = 0;
        for (int what = 0; what < 19; what++) {
            seen[next++] = t.count(what);
        }
        seen[next++] = t.next();
        seen[next++] = t.fault();
        for (int path = 0; path < 9; path++) {
            for (int what = 0; what < 12; what++) {
                seen[next++] = t.path(path, what);
            }
            seen[next++] = t.meets(path);
            seen[next++] = t.endAt(path);
        }
        for (int term = 0; term < 64; term++) {
            seen[next++] = t.coefficient(term / 32, term / 8 % 4, term / 2 % 4, term % 2);
        }
        return seen;
    }

    static void same(String what, int[] got, int[] want) {
        int apart = 0;
        for (int k = 0; k < want.length; k++) {
            apart += got[k] == want[k] ? 0 : 1;
        }
        is(what + ": answers that are not what they were", apart, 0);
    }

    static void end(String name) {
        System.out.println(name + ": " + asked + " answers, wrong: " + wrong);
        if (wrong != 0) {
            System.exit(1);
        }
    }
}
