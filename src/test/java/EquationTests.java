// Promises 1 to 6: a new object, type, wipe, fault, equation, coefficient.
public final class EquationTests {
    public static void main(String[] args) {
        constants();
        newObject();
        type();
        wipe();
        faults();
        equation();
        equationRefused();
        equationBeginsPaths();
        coefficients();
        coefficientRefused();
        Due.end("EquationTests");
    }

    private static void constants() {
        Due.is("INVALID_ARGUMENT", PathTracker.INVALID_ARGUMENT, Due.INVALID);
        Due.is("NOT_POSSIBLE", PathTracker.NOT_POSSIBLE, Due.IMPOSSIBLE);
        Due.is("LIMIT_REACHED", PathTracker.LIMIT_REACHED, Due.LIMIT);
        Due.is("NOT_FOUND", PathTracker.NOT_FOUND, Due.NONE);
    }

    private static void newObject() {
        PathTracker t = new PathTracker();
        int[] counts = {64, 128, 3, 4, 100, 10, 3, 2, 1, 1, 0, 0, 0, 0, 0, 0, 0, 1, 1};
        for (int what = 0; what < counts.length; what++) {
            Due.is("new: count(" + what + ")", t.count(what), counts[what]);
        }
        Due.path(t, 0, 0, 0, 0, 0, 10, 64, 128, 1000, 0, 1000, 0, 1000);
        Due.is("new: path(1, 0)", t.path(1, 0), Due.INVALID);
        for (int i = 0; i <= 3; i++) {
            for (int j = 0; j <= 3 - i; j++) {
                Due.is("new: x", t.coefficient(0, i, j, 0), i == 1 && j == 0 ? 1 : 0);
                Due.is("new: y", t.coefficient(1, i, j, 0), i == 0 && j == 1 ? 1 : 0);
                Due.is("new: im of x", t.coefficient(0, i, j, 1), 0);
                Due.is("new: im of y", t.coefficient(1, i, j, 1), 0);
            }
        }
        Due.is("new: undo", t.undo(), Due.IMPOSSIBLE);
        Due.is("new: restore(0)", t.restore(0), Due.IMPOSSIBLE);
        Due.is("new: restore(1)", t.restore(1), Due.IMPOSSIBLE);
        t.type('x');
        Due.is("objects are apart", new PathTracker().count(15), 0);
    }

    private static void type() {
        PathTracker t = new PathTracker();
        Due.is("type(32)", t.type(32), Due.INVALID);
        Due.is("type(127)", t.type(127), Due.INVALID);
        for (int odd : Due.ODD) {
            Due.is("type(" + odd + ")", t.type(odd), Due.INVALID);
        }
        Due.is("type(33)", t.type(33), 1);
        Due.is("type(126)", t.type(126), 2);
        for (int k = 3; k <= 60; k++) {
            Due.is("type, sign " + k, t.type('x'), k);
        }
        Due.is("a sign too many", t.type('x'), Due.LIMIT);
        Due.is("a wrong sign too many", t.type(32), Due.INVALID);
        Due.is("length stays", t.count(15), 60);
        Due.is("no change", t.count(16), 0);
    }

    private static void wipe() {
        PathTracker t = new PathTracker();
        Due.is("wipe of nothing", t.wipe(), 0);
        Due.type(t, "x^2");
        Due.is("wipe", t.wipe(), 3);
        Due.is("wipe again", t.wipe(), 0);
        Due.is("length", t.count(15), 0);
        Due.is("fault of the empty text", t.fault(), 0);
        for (int k = 0; k < 60; k++) {
            t.type('1');
        }
        Due.is("wipe of a full text", t.wipe(), 60);
        Due.is("type goes on", t.type('y'), 1);
        Due.is("and stands", t.fault(), Due.NONE);
        Due.is("no change", t.count(16), 0);
    }

    private static void fault(String text, int want) {
        PathTracker t = new PathTracker();
        Due.type(t, text);
        Due.is("fault of " + text, t.fault(), want);
        Due.is("fault of " + text + ", once more", t.fault(), want);
        Due.is("length of " + text, t.count(15), text.length());
        if (want >= 0) {
            Due.is("equation of " + text, t.equation(0), Due.IMPOSSIBLE);
        }
    }

    private static void faults() {
        String[] whole = {
            "x", "-x", "y", "i", "-i", "0", "007", "999", "12i", "2ix", "ix", "xy", "yx", "x^1y^2", "x^2y", "xxx", "xxx^1",
            "x^3", "y^3", "x+y-1", "x-y+i-3i+4", "-999ix^2y", "x^1x^1x^1", "3-3", "0x", "yxy", "i-i"
        };
        for (String text : whole) {
            fault(text, Due.NONE);
        }
        String[] early = {"", "-", "x+", "x-", "x^", "3-", "2ix^", "x^2+y^", "xx^", "xxx^", "i+"};
        for (String text : early) {
            fault(text, text.length());
        }
        fault("+x", 0);
        fault("--x", 1);
        fault("x+-y", 2);
        fault("x++y", 2);
        fault("*", 0);
        fault("^2", 0);
        fault("z", 0);
        fault("X", 0);
        fault("I", 0);
        fault("x^0", 2);
        fault("x^4", 2);
        fault("x^^", 2);
        fault("x^x", 2);
        fault("x^2^2", 3);
        fault("x^12", 3);
        fault("x2", 1);
        fault("x3y", 1);
        fault("xi", 1);
        fault("x^2i", 3);
        fault("ii", 1);
        fault("i2", 1);
        fault("2i3", 2);
        fault("2ii", 2);
        fault("1234", 3);
        fault("0000", 3);
        fault("1+1234x", 5);
        fault("xxxx", 3);
        fault("xyxy", 3);
        fault("x^3y", 3);
        fault("x^2y^2", 5);
        fault("xy^3", 3);
        fault("xxy^2", 4);
        fault("x^2xx", 4);
        fault("x^3^", 3);
        fault("x^3+y^4", 6);
        fault("x=0", 1);
        fault("x+(y)", 2);
        fault("2.5x", 1);
        StringBuilder long60 = new StringBuilder("x");
        while (long60.length() < 59) {
            long60.append("+x");
        }
        fault(long60.toString(), Due.NONE);
        fault(long60 + "+", 60);
        fault(long60 + "i", 59);
    }

    private static void equation() {
        PathTracker t = new PathTracker();
        Due.type(t, "x^2+y-5");
        Due.is("equation(0)", t.equation(0), 2);
        Due.is("the text is empty", t.count(15), 0);
        Due.is("it was recorded", t.count(16), 1);
        Due.is("degree of 0", t.count(17), 2);
        Due.is("degree of 1", t.count(18), 1);
        Due.type(t, "xy^2-x");
        Due.is("equation(1)", t.equation(1), 3);
        Due.is("degree of 1", t.count(18), 3);
        Due.is("paths", t.count(8), 6);
        Due.type(t, "x^3-x^3+x^2y-yx^2+3y");
        Due.is("terms that are gone have no degree", t.equation(1), 1);
        Due.type(t, "ix^3");
        Due.is("an imaginary one has", t.equation(1), 3);
        Due.type(t, "0x^3+xy");
        Due.is("a zero in front has no degree", t.equation(0), 2);
    }

    private static void equationRefused() {
        PathTracker t = new PathTracker();
        Due.is("equation of the empty text", t.equation(0), Due.IMPOSSIBLE);
        for (int odd : Due.ODD) {
            Due.is("equation(" + odd + ")", t.equation(odd), Due.INVALID);
        }
        Due.is("equation(2)", t.equation(2), Due.INVALID);
        for (String text : new String[] {"5", "i", "0", "0x^2", "3-3", "x-x", "x^2y-yx^2", "7-2i", "x+", "999x+1x-999x"}) {
            t.wipe();
            Due.type(t, text);
            Due.is("equation of " + text, t.equation(1), Due.IMPOSSIBLE);
            Due.is("the text stays: " + text, t.count(15), text.length());
        }
        Due.is("no change", t.count(16), 0);
        Due.is("y stays", t.coefficient(1, 0, 1, 0), 1);
        t.wipe();
        Due.type(t, "x^2");
        Due.is("equation(2), with a text", t.equation(2), Due.INVALID);
        Due.is("the text stays", t.count(15), 3);
    }

    private static void equationBeginsPaths() {
        PathTracker t = new PathTracker();
        t.trackAll(200);
        t.again(0);
        Due.is("at first it is halved", t.path(0, 6), 64);
        Due.type(t, "y^2-1");
        Due.is("equation(1)", t.equation(1), 2);
        Due.path(t, 0, 0, 0, 0, 0, 10, 64, 128, 1000, 0, 1000, 0);
        Due.path(t, 1, 0, 0, 0, 0, 10, 64, 128, 1000, 0, -1000, 0);
        Due.type(t, "x^3-1");
        Due.is("equation(0)", t.equation(0), 3);
        int[] re = {1000, 1000, -500, -500, -500, -500};
        int[] im = {0, 0, 865, 865, -865, -865};
        for (int k = 0; k < 6; k++) {
            Due.path(t, k, 0, 0, 0, 0, 10, 64, 128, re[k], im[k], k % 2 == 0 ? 1000 : -1000, 0);
        }
        Due.type(t, "xy^2");
        Due.is("equation(1)", t.equation(1), 3);
        Due.is("paths", t.count(8), 9);
        for (int k = 0; k < 9; k++) {
            Due.path(t, k, 0, 0, 0, 0, 10, 64, 128, re[k / 3 * 2], im[k / 3 * 2], re[k % 3 * 2], im[k % 3 * 2]);
        }
        Due.is("path(9, 0)", t.path(9, 0), Due.INVALID);
    }

    private static void coefficient(PathTracker t, int i, int j, int re, int im) {
        Due.is("re of " + i + ", " + j, t.coefficient(0, i, j, 0), re);
        Due.is("im of " + i + ", " + j, t.coefficient(0, i, j, 1), im);
    }

    private static void coefficients() {
        PathTracker t = new PathTracker();
        Due.type(t, "-3x^2y+2iyx^2-i+7-12xy+x^3-y^2-4iy^3+5ix-xy^2+yyy+8y");
        Due.is("equation(0)", t.equation(0), 3);
        coefficient(t, 0, 0, 7, -1);
        coefficient(t, 0, 1, 8, 0);
        coefficient(t, 0, 2, -1, 0);
        coefficient(t, 0, 3, 1, -4);
        coefficient(t, 1, 0, 0, 5);
        coefficient(t, 1, 1, -12, 0);
        coefficient(t, 1, 2, -1, 0);
        coefficient(t, 2, 0, 0, 0);
        coefficient(t, 2, 1, -3, 2);
        coefficient(t, 3, 0, 1, 0);
        Due.is("the other equation stays", t.coefficient(1, 0, 1, 0), 1);
        Due.type(t, "900x+900x-100x+x^3-999ix-999ix-ix+5ix+x+007");
        Due.is("equation(0)", t.equation(0), 3);
        coefficient(t, 1, 0, 900, -994);
        coefficient(t, 0, 0, 7, 0);
        coefficient(t, 2, 1, 0, 0);
    }

    private static void coefficientRefused() {
        PathTracker t = new PathTracker();
        for (int odd : Due.ODD) {
            Due.is("equation", t.coefficient(odd, 0, 0, 0), Due.INVALID);
            Due.is("i", t.coefficient(0, odd, 0, 0), Due.INVALID);
            Due.is("j", t.coefficient(0, 0, odd, 0), Due.INVALID);
            Due.is("part", t.coefficient(0, 0, 0, odd), Due.INVALID);
        }
        Due.is("equation 2", t.coefficient(2, 0, 0, 0), Due.INVALID);
        Due.is("i is 4", t.coefficient(0, 4, 0, 0), Due.INVALID);
        Due.is("j is 4", t.coefficient(0, 0, 4, 0), Due.INVALID);
        Due.is("part 2", t.coefficient(0, 0, 0, 2), Due.INVALID);
        for (int i = 0; i <= 3; i++) {
            Due.is("i + j is 3", t.coefficient(1, i, 3 - i, 0), 0);
            Due.is("i + j is 4", t.coefficient(1, i, 4 - i, 0), Due.INVALID);
        }
    }
}
