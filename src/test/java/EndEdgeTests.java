import java.io.IOException;

// The boundaries that the document names under "Ends" and "Settings", and in the
// promises 9 to 15. The path of DOC.md is the argument.
public final class EndEdgeTests {
    private static final int[] LEAST = {1, 1, 1, 1, 2, 0, -16, -16};
    private static final int[] MOST = {256, 256, 6, 64, 500, 1000, 16, 16};
    private static final int[] FIRST = {64, 128, 3, 4, 100, 10, 3, 2};
    // With these the paths 0 and 1 of x * x - 4, x * y - 2, and 2 and 3, come to one end,
    // told in thousandths; some of their parts are apart by a unit.
    private static final int[] LOOSE = {5, 0, 6, 1, 7, 0, 3, 64, 2, 6, 1, 256, 0, 256};

    public static void main(String[] args) throws IOException {
        Due.document(args);
        toldInThousandths();
        nearByParts();
        nearInThousandths();
        nearOfZero();
        meetsTheFirst();
        meetsOnlyEnds();
        meetsRefused();
        againHalves();
        againBeginsAnew();
        againFromEachState();
        againRefused();
        pathRange();
        whatIsToldOfAPath();
        pathValues();
        next();
        nextOfNone();
        endsInOrder();
        endsThatAreEqual();
        endAtRange();
        settings();
        settingsRefused();
        startAndMax();
        gamma();
        countRange();
        countsOfStates();
        countOfRealEnds();
        Due.end("EndEdgeTests");
    }

    private static PathTracker ended(String first, String second, int... settings) {
        PathTracker t = Due.with(first, second, settings);
        Due.is("none is left on its way", t.trackAll(200), 0);
        Due.is("all are at their ends", t.count(10), t.count(8));
        return t;
    }

    // 513 units are 500.98 thousandths, 490 are 478.5, 887 are 866.2.
    private static void toldInThousandths() {
        Due.says("A part is told in thousandths: part * 1000 / U.");
        PathTracker t = ended("999x^2-250", "y", 6, 1, 7, 0);
        Due.point(t, 0, -500, 0, 0, 0);
        Due.point(t, 1, 500, 0, 0, 0);
        PathTracker im = ended("x", "999y^2+229");
        Due.point(im, 0, 0, 0, 0, 478);
        Due.point(im, 1, 0, 0, 0, -478);
        Due.point(ended("x^3-1", "y"), 2, -500, -866, 0, 0);
    }

    private static void near(PathTracker t, int apart) {
        t.set(5, apart - 1);
        Due.is("one less is not near", t.meets(0), Due.NONE);
        Due.is("one less is not near", t.meets(1), Due.NONE);
        Due.is("two ends", t.count(13), 2);
        t.set(5, apart);
        Due.is("NEAR is near", t.meets(0), 1);
        Due.is("NEAR is near", t.meets(1), 0);
        Due.is("one end", t.count(13), 1);
    }

    private static void nearByParts() {
        Due.says("Two paths that are at their ends meet if each of the four parts of x and y, told so, differ by the setting NEAR at most.");
        near(ended("4x^2-1", "y"), 1000);
        near(ended("4x^2+1", "y"), 1000);
        near(ended("x", "4y^2-1"), 1000);
        near(ended("x", "4y^2+1"), 1000);
        near(ended("9x^2-1", "y"), 666);
    }

    // 513 units and -513 are 1026 apart, 1001 thousandths; told they are 1000 apart.
    private static void nearInThousandths() {
        Due.says("Two paths that are at their ends meet if each of the four parts of x and y, told so, differ by the setting NEAR at most.");
        near(ended("999x^2-250", "y", 6, 1, 7, 0), 1000);
        near(ended("999x^2+229", "y"), 956);
        near(ended("x", "999y^2+229"), 956);
    }

    private static void nearOfZero() {
        Due.says("Two paths that are at their ends meet if each of the four parts of x and y, told so, differ by the setting NEAR at most.");
        PathTracker t = ended("x^2-4", "xy-2", LOOSE);
        Due.is("NEAR", t.count(5), 0);
        int[] met = {1, 0, 3, 2};
        for (int k = 0; k < 4; k++) {
            Due.is("meets(" + k + ")", t.meets(k), met[k]);
        }
        Due.is("at their ends, and meet no path with a lower number", t.count(13), 2);
    }

    private static void meetsTheFirst() {
        Due.says("Finds the first other path that a path meets.");
        PathTracker t = ended("27x^3-1", "y", 5, 1000);
        Due.is("1 before 2", t.meets(0), 1);
        Due.is("0 before 2", t.meets(1), 0);
        Due.is("0 before 1", t.meets(2), 0);
        Due.is("at their ends, and meet no path with a lower number", t.count(13), 1);
        t.set(5, 582);
        Due.is("2 is near 1, and 0 is", t.meets(2), 0);
        t.set(5, 500);
        Due.is("2 and 0 are 499 apart", t.meets(2), 0);
        Due.is("1 and 0 are 501 apart", t.meets(1), Due.NONE);
        Due.is("0 and 2", t.meets(0), 2);
        Due.is("0 and 1 meet no lower one", t.count(13), 2);
    }

    private static void meetsOnlyEnds() {
        Due.says("Two paths that are at their ends meet");
        PathTracker t = Due.with("9x^2-1", "y", 5, 1000);
        t.track(0, 200);
        t.track(1, 9);
        Due.path(t, 1, 0, 960, 9, 0, 10, 128, 128, -361, -18, 177, 91);
        Due.is("the other one is on its way", t.meets(0), Due.NONE);
        Due.is("one end", t.count(13), 1);
        t.track(1, 1);
        Due.is("the other one is at its end", t.meets(0), 1);
        Due.is("one end", t.count(13), 1);
        Due.is("not itself", ended("x", "y", 5, 1000).meets(0), Due.NONE);
        PathTracker gone = Due.with("x^2-300", "y", 4, 17, 5, 1000);
        gone.trackAll(200);
        Due.is("gone", gone.count(11), 2);
        Due.is("no ends", gone.count(13), 0);
        PathTracker two = Due.of("x^2-y", "y^2-y");
        two.trackAll(200);
        Due.is("lost", two.count(12), 2);
        two.set(5, 1000);
        Due.is("ends", two.count(10), 2);
        Due.is("paths that are lost meet none", two.meets(0), Due.NONE);
        Due.is("ends that meet no lower one", two.count(13), 2);
    }

    private static void meetsRefused() {
        Due.says("Returns its number; INVALID_ARGUMENT; NOT_POSSIBLE if the path is not at its end; NOT_FOUND if it meets none.");
        PathTracker t = Due.of("x^2-1", "y");
        Due.is("on its way", t.meets(0), Due.IMPOSSIBLE);
        t.track(0, 200);
        Due.is("the other one is on its way", t.meets(1), Due.IMPOSSIBLE);
        Due.is("it meets none", t.meets(0), Due.NONE);
        Due.is("no such path", t.meets(2), Due.INVALID);
        for (int odd : Due.ODD) {
            Due.is("meets(" + odd + ")", t.meets(odd), Due.INVALID);
        }
        PathTracker gone = Due.of("x-300", "y");
        gone.track(0, 200);
        Due.is("gone", gone.meets(0), Due.IMPOSSIBLE);
        PathTracker lost = Due.with("x", "y", 6, -1, 7, 0, 1, 64);
        lost.track(0, 200);
        Due.is("lost", lost.path(0, 0), 3);
        Due.is("lost", lost.meets(0), Due.IMPOSSIBLE);
    }

    private static void againHalves() {
        Due.says("Lets a path begin again, with half of its greatest step (1 at least), and a step of START, at most this;");
        PathTracker t = Due.with("x", "y", 0, 5, 1, 255);
        int[] greatest = {127, 63, 31, 15, 7, 3, 1, 1, 1};
        for (int want : greatest) {
            Due.is("again(0)", t.again(0), want);
            Due.path(t, 0, 0, 0, 0, 0, 10, Math.min(5, want), want, 1000, 0, 1000, 0, 1000);
        }
        PathTracker two = Due.with("x", "y", 1, 2);
        Due.is("2 / 2", two.again(0), 1);
        PathTracker one = Due.with("x", "y", 1, 1);
        Due.is("1 at least", one.again(0), 1);
        PathTracker start = Due.with("x", "y", 0, 64, 1, 128);
        Due.is("128 / 2", start.again(0), 64);
        Due.is("START is this", start.path(0, 5), 64);
        Due.is("64 / 2", start.again(0), 32);
        Due.is("START is more", start.path(0, 5), 32);
    }

    private static void againBeginsAnew() {
        Due.says("its tries are counted from 0 again. This is a change.");
        PathTracker t = Due.with("x^2-1", "y", 0, 4);
        t.trackAll(2);
        Due.is("again(1)", t.again(1), 64);
        Due.is("a change", t.count(16), 4);
        Due.path(t, 1, 0, 0, 0, 0, 10, 4, 64, -1000, 0, 1000, 0);
        Due.path(t, 0, 0, 8, 2, 0, 10, 4, 128);
        t.trackAll(1);
        Due.is("the third one in a row", t.path(0, 5), 8);
        Due.is("the first one in a row", t.path(1, 5), 4);
        t.trackAll(2);
        Due.is("the third one in a row", t.path(1, 5), 8);
    }

    private static void againFromEachState() {
        Due.says("Lets a path begin again");
        PathTracker end = ended("x", "y");
        Due.is("at its end", end.again(0), 64);
        Due.path(end, 0, 0, 0, 0, 0, 10, 64, 64, 1000, 0, 1000, 0);
        PathTracker gone = Due.of("x-300", "y");
        gone.trackAll(200);
        Due.is("gone", gone.path(0, 0), 2);
        Due.is("gone", gone.again(0), 64);
        Due.path(gone, 0, 0, 0, 0, 0, 10, 64, 64, 1000, 0, 1000, 0);
        PathTracker lost = Due.with("999x^3-1", "y", 0, 25, 2, 1, 3, 1);
        lost.track(1, 200);
        Due.path(lost, 1, 3, 0, 0, 10, 18, 1, 128, -500, 865, 1000, 0);
        Due.is("lost", lost.again(1), 64);
        Due.path(lost, 1, 0, 0, 0, 0, 10, 25, 64, -500, 865, 1000, 0);
        Due.is("it can be followed", lost.track(1, 1), 1);
        Due.path(lost, 1, 0, 0, 0, 1, 10, 12, 64);
    }

    private static void againRefused() {
        Due.says("Returns the greatest step then; INVALID_ARGUMENT.");
        PathTracker t = Due.of("x^2-1", "y");
        t.trackAll(5);
        int[] before = Due.seen(t);
        Due.is("no such path", t.again(2), Due.INVALID);
        for (int odd : Due.ODD) {
            Due.is("again(" + odd + ")", t.again(odd), Due.INVALID);
        }
        Due.same("it changes nothing", Due.seen(t), before);
    }

    private static void pathRange() {
        Due.says("7 to 10: x.re, x.im, y.re, y.im in thousandths; 11: the greater one of the sizes of the values of both equations at its point");
        PathTracker t = Due.of("x^3-1", "y^2-1");
        Due.path(t, 3, 0, 0, 0, 0, 10, 64, 128, -500, 865, -1000, 0, 2);
        Due.is("-1", t.path(3, -1), Due.INVALID);
        Due.is("12", t.path(3, 12), Due.INVALID);
        Due.is("no such path", t.path(6, 0), Due.INVALID);
        Due.is("no such path", t.path(-1, 0), Due.INVALID);
        for (int odd : Due.ODD) {
            Due.is("path(" + odd + ", 0)", t.path(odd, 0), Due.INVALID);
            Due.is("path(0, " + odd + ")", t.path(0, odd), Due.INVALID);
        }
    }

    // Each one of the numbers another one: a path at the precision 18, one at its begin.
    private static void whatIsToldOfAPath() {
        Due.says("Returns something of a path. - `what`: 0: its state; 1: T; 2: tries that were good; 3: tries that failed;"
            + " 4: the precision; 5: the step; 6: the greatest step; 7 to 10: x.re, x.im, y.re, y.im in thousandths;");
        PathTracker t = Due.of("xy-1", "xy+x-1");
        t.track(0, 24);
        int[] want = {0, 1022, 15, 9, 18, 32, 128, 127, -144, 3437, 3927};
        for (int what = 0; what < want.length; what++) {
            Due.is("path(0, " + what + ")", t.path(0, what), want[what]);
        }
        Due.says("Returns the number; INVALID_ARGUMENT.");
        Due.path(t, 3, 0, 0, 0, 0, 10, 64, 128, -1000, 0, -1000, 0, 1000);
        Due.is("path(4, 0)", t.path(4, 0), Due.INVALID);
        Due.is("path(0, 12)", t.path(0, 12), Due.INVALID);
    }

    // The values are those of the equations, at any T, not those of the system.
    private static void pathValues() {
        Due.says("11: the greater one of the sizes of the values of both equations at its point, in thousandths");
        Due.is("2 and 3", Due.of("x-3", "y-4").path(0, 11), 3000);
        Due.is("3 and 2", Due.of("x-4", "y-3").path(0, 11), 3000);
        Due.is("-5 i and 4", Due.of("x-1-5i", "y+3").path(0, 11), 5000);
        PathTracker t = Due.with("x-5", "y", 6, 1, 7, 0, 0, 256, 1, 256);
        t.track(0, 2);
        Due.path(t, 0, 0, 512, 2, 0, 10, 256, 256, 3000, 0, 500, 0, 2000);
    }

    private static void next() {
        Due.says("Finds the path that should be followed next: of those on their way that with the least T, of several that with the"
            + " least step, of several the lowest number.");
        PathTracker t = Due.of("x^2-1", "y^2-1");
        Due.is("all are equal", t.next(), 0);
        t.track(0, 1);
        t.track(1, 1);
        Due.is("2 and 3 are equal", t.next(), 2);
        t.again(3);
        Due.is("the same steps", t.next(), 2);
        t.again(3);
        Due.is("3 has the least step", t.next(), 3);
        t.track(3, 1);
        Due.path(t, 3, 0, 32, 1, 0, 10, 32, 32);
        Due.is("2 has the least T, though not the least step", t.next(), 2);
        t.track(2, 1);
        Due.is("3 has the least T", t.next(), 3);
        t.track(3, 1);
        Due.path(t, 3, 0, 64, 2, 0, 10, 32, 32);
        Due.is("3 has the least step of 4 with the same T", t.next(), 3);
        t.track(3, 200);
        Due.is("0, 1 and 2 are equal", t.next(), 0);
        t.track(0, 200);
        Due.is("1 and 2 are equal", t.next(), 1);
    }

    private static void nextOfNone() {
        Due.says("Returns its number; NOT_FOUND if none is on its way.");
        PathTracker t = ended("x^2-1", "y");
        Due.is("all are at their ends", t.next(), Due.NONE);
        t.again(1);
        Due.is("the only one", t.next(), 1);
        PathTracker gone = Due.of("x-300", "y");
        gone.trackAll(200);
        Due.is("gone", gone.next(), Due.NONE);
        PathTracker lost = Due.with("x", "y", 6, -1, 7, 0, 1, 64);
        lost.trackAll(200);
        Due.is("lost", lost.next(), Due.NONE);
    }

    private static void order(PathTracker t, int... paths) {
        for (int k = 0; k < paths.length; k++) {
            Due.is("endAt(" + k + ")", t.endAt(k), paths[k]);
        }
        Due.is("no more", t.endAt(paths.length), Due.NONE);
    }

    private static void endsInOrder() {
        Due.says("Returns a path that is at its end, in the order of the ends: by x.re, then x.im, y.re, y.im in thousandths, then by"
            + " the number. - `index`: 0 for the first one, and so on");
        order(ended("x^2-1", "y"), 1, 0);
        order(ended("x", "y^2+1"), 1, 0);
        // x.re before x.im: (1000, 0), (-500, 866), (-500, -866).
        order(ended("x^3-1", "y"), 2, 1, 0);
        // y.re before y.im.
        order(ended("x", "y^3-1"), 2, 1, 0);
        // x.re before y.re, x.re before y.im, x.im before y.re, x.im before y.im.
        order(ended("x^2-1", "y^2-1"), 3, 2, 1, 0);
        order(ended("x^2-1", "y^2+1"), 3, 2, 1, 0);
        order(ended("x^2+1", "y^2-1"), 3, 2, 1, 0);
        order(ended("x^2+1", "y^2+1"), 3, 2, 1, 0);
        order(ended("x^3-1", "y^3-1"), 8, 7, 6, 5, 4, 3, 2, 1, 0);
        // Numbers, not texts: -500 comes before 478.
        order(ended("999x^2-250", "y", 6, 1, 7, 0), 0, 1);
        PathTracker t = ended("x^2-1", "y^2-1");
        t.again(3);
        t.again(1);
        order(t, 2, 0);
    }

    private static void endsThatAreEqual() {
        Due.says("by x.re, then x.im, y.re, y.im in thousandths, then by the number");
        PathTracker t = ended("x^2-4", "xy-2", LOOSE);
        for (int k = 0; k < 4; k += 2) {
            for (int part = 7; part <= 10; part++) {
                Due.is("they are told the same", t.path(k, part), t.path(k + 1, part));
            }
        }
        order(t, 2, 3, 0, 1);
    }

    private static void endAtRange() {
        Due.says("Returns its number; INVALID_ARGUMENT if index is negative; NOT_FOUND if there are not so many.");
        PathTracker t = Due.of("x^2-1", "y");
        Due.is("no end", t.endAt(0), Due.NONE);
        Due.is("negative", t.endAt(-1), Due.INVALID);
        Due.is("negative", t.endAt(Integer.MIN_VALUE), Due.INVALID);
        t.track(0, 200);
        Due.is("the first one", t.endAt(0), 0);
        Due.is("not so many", t.endAt(1), Due.NONE);
        Due.is("not so many", t.endAt(2), Due.NONE);
        Due.is("not so many", t.endAt(9), Due.NONE);
        Due.is("not so many", t.endAt(Integer.MAX_VALUE), Due.NONE);
        Due.is("negative", t.endAt(-1), Due.INVALID);
        PathTracker gone = Due.of("x-300", "y");
        gone.trackAll(200);
        Due.is("gone is no end", gone.endAt(0), Due.NONE);
    }

    private static void settings() {
        Due.says("Sets a setting. This is a change. - `what`: 0 to 7 - `value`: a value in its range");
        Due.says("(In parentheses: range; first value.) 0 START (1 to 256; 64), 1 MAX (1 to 256; 128), 2 ROUNDS (1 to 6; 3), 3 TOLERANCE (1 to 64; 4), 4 BOUND (2 to 500; 100),"
            + " 5 NEAR (0 to 1000; 10), 6 and 7 GAMMA, its parts (-16 to 16; 3 and 2; not both 0).");
        for (int what = 0; what < 8; what++) {
            PathTracker t = new PathTracker();
            Due.is("the first value", t.count(what), FIRST[what]);
            Due.is("below the least", t.set(what, LEAST[what] - 1), Due.INVALID);
            Due.is("above the greatest", t.set(what, MOST[what] + 1), Due.INVALID);
            Due.is("it stays", t.count(what), FIRST[what]);
            Due.is("no change", t.count(16), 0);
            Due.is("the least", t.set(what, LEAST[what]), FIRST[what]);
            Due.is("it is set", t.count(what), LEAST[what]);
            Due.is("the greatest", t.set(what, MOST[what]), LEAST[what]);
            Due.is("it is set", t.count(what), MOST[what]);
            Due.is("the same once more", t.set(what, MOST[what]), MOST[what]);
            for (int other = 0; other < 8; other++) {
                Due.is("setting " + other, t.count(other), other == what ? MOST[what] : FIRST[other]);
            }
        }
    }

    private static void settingsRefused() {
        Due.says("`what`: 0 to 7");
        PathTracker t = new PathTracker();
        t.trackAll(3);
        int[] before = Due.seen(t);
        Due.is("-1", t.set(-1, 5), Due.INVALID);
        Due.is("8", t.set(8, 5), Due.INVALID);
        for (int odd : Due.ODD) {
            Due.is("set(" + odd + ", 1)", t.set(odd, 1), Due.INVALID);
            Due.is("set(0, " + odd + ")", t.set(0, odd), Due.INVALID);
            Due.is("set(odd, odd)", t.set(odd, odd), Due.INVALID);
        }
        Due.same("it changes nothing", Due.seen(t), before);
        Due.says("Returns what it was; INVALID_ARGUMENT; NOT_POSSIBLE if both parts of GAMMA would be 0.");
        Due.is("what it was", t.set(4, 99), 100);
        Due.is("what it was", t.set(4, 98), 99);
    }

    private static void startAndMax() {
        Due.says("START is held to MAX for a path that begins.");
        PathTracker t = new PathTracker();
        t.set(0, 256);
        Due.path(t, 0, 0, 0, 0, 0, 10, 128, 128);
        Due.is("START itself is not held", t.count(0), 256);
        t.set(1, 256);
        Due.path(t, 0, 0, 0, 0, 0, 10, 256, 256);
        t.set(1, 255);
        Due.path(t, 0, 0, 0, 0, 0, 10, 255, 255);
        t.set(1, 1);
        Due.path(t, 0, 0, 0, 0, 0, 10, 1, 1);
        t.set(0, 1);
        t.set(1, 2);
        Due.path(t, 0, 0, 0, 0, 0, 10, 1, 2);
        t.set(0, 2);
        Due.path(t, 0, 0, 0, 0, 0, 10, 2, 2);
        t.set(0, 3);
        Due.path(t, 0, 0, 0, 0, 0, 10, 2, 2);
        Due.type(t, "x^2-1");
        t.equation(0);
        Due.path(t, 1, 0, 0, 0, 0, 10, 2, 2, -1000);
    }

    private static void gamma() {
        Due.says("NOT_POSSIBLE if both parts of GAMMA would be 0.");
        PathTracker t = new PathTracker();
        Due.is("re 0", t.set(6, 0), 3);
        t.trackAll(5);
        int[] before = Due.seen(t);
        Due.is("both 0", t.set(7, 0), Due.IMPOSSIBLE);
        Due.same("it changes nothing", Due.seen(t), before);
        Due.is("re 0 again", t.set(6, 0), 0);
        Due.is("im -1", t.set(7, -1), 2);
        Due.is("re -16", t.set(6, -16), 0);
        Due.is("im 0", t.set(7, 0), -1);
        t.trackAll(5);
        before = Due.seen(t);
        Due.is("both 0", t.set(6, 0), Due.IMPOSSIBLE);
        Due.same("it changes nothing", Due.seen(t), before);
        Due.is("im 0 again", t.set(7, 0), 0);
        Due.is("re 1", t.set(6, 1), -16);
        Due.is("NEAR 0, with a part 0", t.set(5, 0), 10);
    }

    private static void countRange() {
        Due.says("Returns a number. - `what`: 0 to 7: the setting; 8: paths; 9: on their way; 10: at their ends;");
        Due.says("15: the length of the text; 16: states in the history; 17, 18: the degree of the equation 0, 1"
            + " Returns the number; INVALID_ARGUMENT.");
        PathTracker t = Due.of("x^2-1", "xy^2-1");
        Due.type(t, "x+");
        int[] want = {64, 128, 3, 4, 100, 10, 3, 2, 6, 6, 0, 0, 0, 0, 0, 2, 2, 2, 3};
        for (int what = 0; what < want.length; what++) {
            Due.is("count(" + what + ")", t.count(what), want[what]);
        }
        Due.is("-1", t.count(-1), Due.INVALID);
        Due.is("19", t.count(19), Due.INVALID);
        for (int odd : Due.ODD) {
            Due.is("count(" + odd + ")", t.count(odd), Due.INVALID);
        }
    }

    private static void countsOfStates() {
        Due.says("8: paths; 9: on their way; 10: at their ends; 11: gone to infinity; 12: lost; 13: at their ends, and meet no path with"
            + " a lower number;");
        PathTracker t = Due.of("x^2-y", "y^2-y");
        t.track(0, 200);
        t.track(1, 200);
        counts(t, 4, 2, 1, 0, 1);
        t.trackAll(200);
        counts(t, 4, 0, 2, 0, 2);
        PathTracker gone = Due.with("x^2-1", "99x", 4, 100);
        gone.track(1, 200);
        counts(gone, 2, 1, 0, 1, 0);
        gone.again(1);
        counts(gone, 2, 2, 0, 0, 0);
    }

    private static void counts(PathTracker t, int... want) {
        for (int k = 0; k < want.length; k++) {
            Due.is("count(" + (8 + k) + ")", t.count(8 + k), want[k]);
        }
    }

    private static void real(PathTracker t, int size, int ends) {
        t.set(5, size - 1);
        Due.is("one less is not enough", t.count(14), 0);
        t.set(5, size);
        Due.is("a size of NEAR", t.count(14), ends);
        t.set(5, 1000);
        Due.is("a size below NEAR", t.count(14), ends);
    }

    private static void countOfRealEnds() {
        Due.says("14: at their ends with x.im and y.im, in thousandths, of a size of NEAR at most");
        real(ended("x^2+1", "y^2-1"), 1000, 4);
        real(ended("x^2-1", "y^2+1"), 1000, 4);
        real(ended("4x^2+1", "y"), 500, 2);
        real(ended("x", "4y^2+1"), 500, 2);
        // 490 units, 478.5 thousandths.
        real(ended("999x^2+229", "y"), 478, 2);
        real(ended("x", "999y^2+229"), 478, 2);
        PathTracker t = ended("x^3-1", "y", 5, 0);
        Due.is("NEAR 0", t.count(14), 1);
        t.set(5, 865);
        Due.is("NEAR 865", t.count(14), 1);
        t.set(5, 866);
        Due.is("NEAR 866", t.count(14), 3);
        t.again(0);
        Due.is("on its way is no end", t.count(14), 2);
        PathTracker way = Due.of("x", "y");
        Due.is("on its way is no end", way.count(14), 0);
        PathTracker gone = Due.with("x-300", "y", 6, 1, 7, 0, 4, 2);
        gone.trackAll(200);
        Due.is("gone is no end", gone.count(14), 0);
    }
}
