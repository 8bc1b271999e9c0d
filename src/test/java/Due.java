// What the tests of the project share: the comparing of answers, and texts typed.
final class Due {
    static final int INVALID = -2000000001;
    static final int IMPOSSIBLE = -2000000002;
    static final int LIMIT = -2000000003;
    static final int NONE = -2000000004;
    static final int[] ODD = {-1, Integer.MIN_VALUE, Integer.MAX_VALUE, 1000000, -1000000};

    private static int wrong = 0;
    private static int asked = 0;

    private Due() {
    }

    static void is(String what, long got, long want) {
        asked++;
        if (got != want) {
            wrong++;
            System.out.println(what + ": answered " + got + ", due is " + want);
        }
    }

    static void type(PathTracker t, String text) {
        for (int k = 0; k < text.length(); k++) {
            t.type(text.charAt(k));
        }
    }

    static PathTracker of(String first, String second) {
        PathTracker t = new PathTracker();
        type(t, first);
        is("an equation stands: " + first, t.equation(0) > 0 ? 1 : 0, 1);
        type(t, second);
        is("an equation stands: " + second, t.equation(1) > 0 ? 1 : 0, 1);
        return t;
    }

    static void path(PathTracker t, int path, int... want) {
        for (int what = 0; what < want.length; what++) {
            is("path(" + path + ", " + what + ")", t.path(path, what), want[what]);
        }
    }

    static void end(String name) {
        System.out.println(name + ": " + asked + " answers, wrong: " + wrong);
        if (wrong != 0) {
            System.exit(1);
        }
    }
}
