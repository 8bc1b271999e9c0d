import java.io.IOException;

// The boundaries that the document names under "Paths" and "A try", and in the
// promises 7 and 8. The path of DOC.md is the argument.
public final class TryEdgeTests {
    // With GAMMA 1 the tries of simple equations can be told by hand; a step of 256.
    private static final int[] PLAIN = {6, 1, 7, 0, 1, 256, 0, 256};
    private static final int[] PLAIN_128 = {6, 1, 7, 0, 1, 128, 0, 128};

    public static void main(String[] args) throws IOException {
        Due.document(args);
        numberOfPaths();
        roots();
        startSystem();
        pathAtItsBegin();
        valuesOfTheSystem();
        gammaOfTheStartSystem();
        lastStep();
        stepsOfOne();
        linearEquations();
        predictor();
        differenceInThePredictor();
        shareInThePredictor();
        rounds();
        tolerance();
        halfIsEnough();
        moreThanHalfFails();
        noSolution();
        threeInARow();
        greatestStep();
        rowBeginsAnew();
        rowBehindAFailedTry();
        goodTry();
        boundReached();
        boundLeft();
        boundBeforeTheEnd();
        stepIsHalved();
        stepOfThePathIsHalved();
        secondPrecision();
        lost();
        trackCounts();
        trackRefused();
        trackAllCounts();
        trackAllRefused();
        Due.end("TryEdgeTests");
    }

    private static int[] and(int[] settings, int... more) {
        int[] all = new int[settings.length + more.length];
        System.arraycopy(settings, 0, all, 0, settings.length);
        System.arraycopy(more, 0, all, settings.length, more.length);
        return all;
    }

    private static PathTracker tracked(String first, String second, int tries, int... settings) {
        PathTracker t = Due.with(first, second, settings);
        Due.is("track(0, " + tries + ")", t.track(0, tries), tries);
        return t;
    }

    private static void good(String what, PathTracker t, int place, int x) {
        Due.is(what + ": good tries", t.path(0, 2), 1);
        Due.is(what + ": tries that failed", t.path(0, 3), 0);
        Due.is(what + ": T", t.path(0, 1), place);
        Due.is(what + ": x.re", t.path(0, 7), x);
    }

    private static void failed(String what, PathTracker t, int step) {
        Due.is(what + ": good tries", t.path(0, 2), 0);
        Due.is(what + ": tries that failed", t.path(0, 3), 1);
        Due.is(what + ": T", t.path(0, 1), 0);
        Due.is(what + ": the step", t.path(0, 5), step);
        Due.is(what + ": x.re", t.path(0, 7), 1000);
    }

    private static void numberOfPaths() {
        Due.says("With the degrees d of the equation 0 and e of the equation 1 there are d * e paths.");
        String[] first = {"x", "x^2", "x^3"};
        String[] second = {"y", "xy", "xy^2"};
        for (int d = 1; d <= 3; d++) {
            for (int e = 1; e <= 3; e++) {
                PathTracker t = Due.of(first[d - 1], second[e - 1]);
                Due.is("paths", t.count(8), d * e);
                Due.is("the last one", t.path(d * e - 1, 0), 0);
                Due.is("one more", t.path(d * e, 0), Due.INVALID);
                Due.is("one more", t.track(d * e, 1), Due.INVALID);
                Due.is("one more", t.again(d * e), Due.INVALID);
                Due.is("one more", t.meets(d * e), Due.INVALID);
            }
        }
    }

    private static void roots() {
        Due.says("The roots of 1 are, in this order: 1 for the degree 1; 1 and -1 for 2; 1, (-1/2, s) and (-1/2, -s) for 3, where 1/2 is U / 2,"
            + " and s is 866025404 * U / 1000000000.");
        int[][] re = {{1000}, {1000, -1000}, {1000, -500, -500}};
        int[][] im = {{0}, {0, 0}, {0, 865, -865}};
        String[] first = {"x", "xy", "y^3"};
        String[] second = {"x", "ix^2", "x^2y"};
        for (int d = 1; d <= 3; d++) {
            for (int e = 1; e <= 3; e++) {
                PathTracker t = Due.of(first[d - 1], second[e - 1]);
                Due.says("The path k begins at the root with the number k / e for x, and k % e for y.");
                for (int k = 0; k < d * e; k++) {
                    Due.point(t, k, re[d - 1][k / e], im[d - 1][k / e], re[e - 1][k % e], im[e - 1][k % e]);
                }
            }
        }
    }

    // The start system is that of the degrees that the equations have now.
    private static void startSystem() {
        Due.says("The start system is x to the power of d less 1, and y to the power of e less 1 (as equations).");
        PathTracker t = tracked("x-2", "y-3", 10);
        Due.point(t, 0, 2000, 0, 3000, 0);
        Due.type(t, "x^2-4");
        t.equation(0);
        Due.is("trackAll(200)", t.trackAll(200), 0);
        Due.point(t, 0, 2000, 0, 2999, 0);
        Due.point(t, 1, -2000, 0, 2999, 0);
        Due.type(t, "y^3-8");
        t.equation(1);
        Due.is("trackAll(200)", t.trackAll(200), 0);
        Due.point(t, 0, 2000, 0, 2000, 0);
        Due.point(t, 4, -2000, 0, -1000, 1732);
        Due.point(t, 5, -2000, 0, -1000, -1731);
        t.undo();
        t.undo();
        Due.is("two paths", t.count(10), 2);
        t.again(1);
        Due.is("track(1, 200)", t.track(1, 200), 16);
        Due.point(t, 1, -2000, 0, 2999, 0);
    }

    private static void pathAtItsBegin() {
        Due.says("A path has a place T, 0 at first, to 1024; a point (x, y); a step, at first the setting START; a greatest step,"
            + " at first the setting MAX; the precision 10 at first; good steps in a row, 0 at first; and a state:");
        PathTracker t = Due.with("x^2", "y", 0, 17, 1, 91);
        Due.path(t, 0, 0, 0, 0, 0, 10, 17, 91, 1000, 0, 1000, 0, 1000);
        Due.path(t, 1, 0, 0, 0, 0, 10, 17, 91, -1000, 0, 1000, 0, 1000);
        Due.says("on its way (0), at its end (1), gone to infinity (2) or lost (3).");
        Due.is("on its way", new PathTracker().path(0, 0), 0);
        Due.is("at its end", tracked("x", "y", 10).path(0, 0), 1);
        Due.is("gone to infinity", tracked("x-300", "y", 7).path(0, 0), 2);
        Due.is("lost", tracked("x", "y", 25, 6, -1, 7, 0, 1, 64).path(0, 0), 3);
    }

    private static void valuesOfTheSystem() {
        Due.says("At the place T the values of the system are, by parts, ((1024 - T) * G + T * F) / 1024, held then,"
            + " and likewise its slopes by those of both.");
        // The last step of a path is one with 0 * G.
        Due.path(tracked("x", "y", 10), 0, 1, 1024, 10, 0, 10, 128, 128, 0, 0, 0, 0, 0);
        // (960 * -60 + 64 * 1010) / 1024 is one quotient: 6, and not -56 + 63.
        Due.path(tracked("x", "y", 1), 0, 0, 64, 1, 0, 10, 64, 128, 985, 8, 985, 8, 985);
        // Not held before the quotient.
        Due.path(tracked("x", "-536-970y", 1), 0, 0, 64, 1, 0, 10, 64, 128, 985, 9, -625, -53, 71197);
        Due.path(tracked("-999xy", "8yy", 1), 0, 0, 0, 0, 1, 10, 32, 128, 1000, 0, 1000, 0, 999000);
    }

    private static void gammaOfTheStartSystem() {
        Due.says("Let F be the values of the equations, and G those of the start system times the Gaussian integer of the settings GAMMA.");
        // x moves by (G - F) * 64 / 1024 / GAMMA: 64 units for GAMMA 1, to 960 and 937.5 thousandths.
        Due.point(tracked("x", "y", 1, 6, 1, 7, 0), 0, 937, 0, 937, 0);
        // -1: from 1024 to 1092 units, as x is 1 + T / (1024 - 2 T).
        Due.point(tracked("x", "y", 1, 6, -1, 7, 0), 0, 1071, 0, 1071, 0);
        PathTracker up = Due.with("x", "y", 7, 5, 6, 0);
        PathTracker down = Due.with("x", "y", 7, -5, 6, 0);
        up.track(0, 1);
        down.track(0, 1);
        Due.is("the im part turns", up.path(0, 8) > 0 ? 1 : 0, 1);
        Due.is("the im part turns", down.path(0, 8), -up.path(0, 8));
    }

    private static void lastStep() {
        Due.says("A try of a path on its way takes the step h, or 1024 - T if this is less");
        PathTracker t = tracked("x", "y", 9);
        Due.path(t, 0, 0, 960, 9, 0, 10, 128, 128);
        t.track(0, 1);
        Due.path(t, 0, 1, 1024, 10, 0, 10, 128, 128, 0, 0, 0, 0);
        PathTracker exact = tracked("x", "y", 3, 0, 256, 1, 256);
        Due.path(exact, 0, 0, 768, 3, 0, 10, 256, 256);
        exact.track(0, 1);
        Due.path(exact, 0, 1, 1024, 4, 0, 10, 256, 256, 0, 0, 0, 0);
        PathTracker rest = tracked("x", "y", 10, 0, 100, 1, 100);
        Due.path(rest, 0, 0, 1000, 10, 0, 10, 100, 100);
        rest.track(0, 1);
        Due.path(rest, 0, 1, 1024, 11, 0, 10, 100, 100, 0, 0, 0, 0);
    }

    private static void stepsOfOne() {
        Due.says("A path has a place T, 0 at first, to 1024");
        PathTracker t = Due.with("x", "y", 0, 1, 1, 1);
        for (int k = 1; k <= 5; k++) {
            Due.is("track(0, 200)", t.track(0, 200), 200);
            Due.path(t, 0, 0, 200 * k, 200 * k, 0, 10, 1, 1);
        }
        Due.is("track(0, 23)", t.track(0, 23), 23);
        Due.path(t, 0, 0, 1023, 1023, 0, 10, 1, 1);
        Due.is("track(0, 200)", t.track(0, 200), 1);
        Due.path(t, 0, 1, 1024, 1024, 0, 10, 1, 1, 0, 0, 0, 0);
    }

    // At T = 256 the slopes a, b, c, d are 1, 0.5, 0.75 and 0.5, D is 0.125; in the others
    // 1, 0.5 i, i and 0.5, and 1. All quotients are whole: the corrector comes to the root.
    private static void linearEquations() {
        Due.says("Two linear equations a * u + b * v = r, c * u + d * v = s are solved by the determinant D = a * d - b * c,"
            + " u = (r * d - b * s) / D, v = (a * s - r * c) / D; there is no solution if a quotient is not there.");
        Due.path(tracked("x+2y-9", "3x-y-7", 1, PLAIN), 0, 0, 256, 1, 0, 10, 256, 256, 2000, 0, 2000, 0, 3000);
        Due.path(tracked("-x+3y-7", "2x+y-9", 1, PLAIN), 0, 0, 256, 1, 0, 10, 256, 256, 2000, 0, 2000, 0, 3000);
        Due.path(tracked("x+2iy-1", "4ix-y+3-12i", 1, PLAIN), 0, 0, 256, 1, 0, 10, 256, 256, 2000, 0, 0, 2000, 6000);
    }

    // x * x - 4: from 1024 units by 3 * 256 / 2 = 384 to 1408; the corrector's sizes
    // are 52 and 1, then 0.
    private static void predictor() {
        Due.says("1. Predictor: with the slopes of the system at T, its linear equations are solved for the right sides (G - F) * h / 1024 (by parts); the solution is added to the point.");
        good("without a predictor it is not 52", tracked("x^2-4", "y-1", 1, and(PLAIN, 2, 1, 3, 52)), 256, 1324);
        // A right side of 249.5 is a step to 250.5 at once: the corrector has nothing to do.
        Due.point(tracked("x-999", "y", 1, and(PLAIN, 2, 1, 3, 1, 4, 500)), 0, 250500, 0, 750, 0);
        Due.says("it fails, too, if linear equations have no solution.");
        PathTracker t = Due.with("-yyx", "-yy^2", 3, 64);
        t.track(1, 19);
        Due.path(t, 1, 0, 1016, 12, 7, 10, 1, 128, 106, 307, 93, 318);
        t.track(1, 1);
        Due.path(t, 1, 0, 1016, 12, 8, 18, 64, 128, 106, 307, 93, 318);
    }

    // Before the second try the im parts of G and F, in units, are 29782250 and -1073741824:
    // the difference, 1103524074, is held to 1073741824, and a fourth of it is 268435456.
    private static void differenceInThePredictor() {
        Due.says("sums, differences and the negative are by parts, held;");
        Due.says("for the right sides (G - F) * h / 1024 (by parts)");
        PathTracker t = tracked("918xy^2", "-x^3-333ix", 2, 0, 256, 1, 256);
        Due.path(t, 0, 0, 512, 2, 0, 10, 256, 256, -15653, 11768, 5288, 7390, 1048576000);
        PathTracker other = Due.with("195y^2", "765x^2y", and(PLAIN, 4, 500));
        other.track(1, 2);
        Due.path(other, 1, 0, 512, 2, 0, 10, 256, 256, 13139, 21089, 31432, 56099, 1048576000);
        PathTracker third = tracked("626ixy", "394x^2y+57y^2", 6, 6, 1, 7, 0);
        Due.path(third, 0, 0, 104, 3, 3, 10, 8, 128, 1000, -19562, -6695, 0, 1009439077);
    }

    // Before the second try G - F is -5693 and 25571981 units: the product of the latter
    // one and 64 is above what is held, a sixteenth of it is 1598248.
    private static void shareInThePredictor() {
        Due.says("for the right sides (G - F) * h / 1024 (by parts)");
        PathTracker t = tracked("8x", "-909xy", 1, 6, 1, 7, 0);
        Due.path(t, 0, 0, 64, 1, 0, 10, 64, 128, 651, 0, 39539, 0, 23410300);
        t.track(0, 1);
        Due.path(t, 0, 0, 64, 1, 1, 10, 32, 128, 651, 0, 39539, 0, 23410300);
        Due.path(tracked("590xy^2", "-966xy", 2), 0, 0, 128, 2, 0, 10, 64, 128, -1835, 1890, 7965, -4643, 126862099);
    }

    private static void rounds() {
        Due.says("2. Corrector: at the place T + h, at most as many times as the setting ROUNDS: the linear equations with the slopes"
            + " and the negative values of the system there are solved, and the solution is added to the point.");
        good("52, in 1 round", tracked("x^2-4", "y-1", 1, and(PLAIN, 2, 1, 3, 52)), 256, 1324);
        failed("52, in 1 round", tracked("x^2-4", "y-1", 1, and(PLAIN, 2, 1, 3, 51)), 128);
        good("1, in 2 rounds", tracked("x^2-4", "y-1", 1, and(PLAIN, 2, 2, 3, 51)), 256, 1323);
        Due.says("If no time was good, the try fails; it fails, too, if linear equations have no solution.");
        // x * x + 3: from 512 units to 0, the sizes are 256, 128, 64, 32, 16 and 0.
        failed("32, in 4 rounds", tracked("x^2+3", "y-1", 1, and(PLAIN, 2, 4, 3, 31)), 128);
        failed("16, in 5 rounds", tracked("x^2+3", "y-1", 1, and(PLAIN, 2, 5, 3, 15)), 128);
        good("0, in 6 rounds", tracked("x^2+3", "y-1", 1, and(PLAIN, 2, 6, 3, 15)), 256, 15);
    }

    private static void tolerance() {
        Due.says("If it is at most the setting TOLERANCE, the try is good.");
        good("52 is 52", tracked("x^2-4", "y-1", 1, and(PLAIN, 2, 1, 3, 52)), 256, 1324);
        failed("52 is not 51", tracked("x^2-4", "y-1", 1, and(PLAIN, 2, 1, 3, 51)), 128);
        good("1 is 1", tracked("x^2-4", "y-1", 1, and(PLAIN, 2, 2, 3, 1)), 256, 1323);
        good("16 is 16", tracked("x^2+3", "y-1", 1, and(PLAIN, 2, 5, 3, 16)), 256, 15);
        good("32 is 32", tracked("x^2+3", "y-1", 1, and(PLAIN, 2, 4, 3, 32)), 256, 31);
        Due.says("Its size is the greater one of the sizes of u and v.");
        PathTracker v = tracked("x-1", "y^2-4", 1, and(PLAIN, 2, 1, 3, 52));
        Due.path(v, 0, 0, 256, 1, 0, 10, 256, 256, 1000, 0, 1324, 0);
        failed("v is 52, u is 0", tracked("x-1", "y^2-4", 1, and(PLAIN, 2, 1, 3, 51)), 128);
    }

    private static void halfIsEnough() {
        Due.says("Otherwise, if it is not the first one, and greater than half of the size (the quotient) of the one before, the try fails.");
        good("256, 128, 64, 32, 16, 0", tracked("x^2+3", "y-1", 1, and(PLAIN, 2, 6, 3, 1)), 256, 15);
        good("137, 68, 32, 12, 0: 137 / 2 is 68", tracked("2x^2-12x+11", "y-1", 1, and(PLAIN_128, 2, 6, 3, 1)), 128, 694);
        good("the first one has none before it", tracked("x^2-4", "y-1", 1, and(PLAIN, 2, 2, 3, 1)), 256, 1323);
    }

    private static void moreThanHalfFails() {
        Due.says("Otherwise, if it is not the first one, and greater than half of the size (the quotient) of the one before, the try fails.");
        failed("223, 111, 52, 23, 12: 23 / 2 is 11", tracked("2x^2+7", "y-1", 1, and(PLAIN_128, 2, 6, 3, 11)), 64);
        good("12 is good before it is too great", tracked("2x^2+7", "y-1", 1, and(PLAIN_128, 2, 6, 3, 12)), 128, 26);
        // More than half, though less than before; and more than the half of the one
        // before, though less than the half of the first one.
        Due.path(tracked("99xx", "x", 1, 2, 4), 0, 0, 0, 0, 1, 10, 32, 128, 1000, 0, 1000, 0, 99000);
        Due.path(tracked("2y", "500yyx", 1, 2, 6), 0, 0, 0, 0, 1, 10, 32, 128, 1000, 0, 1000, 0, 500000);
        Due.path(tracked("500y+x", "x", 2), 0, 0, 128, 2, 0, 10, 64, 128, -3501, 18401, 711, -682, 352455);
        Due.path(tracked("12y^2", "x", 10), 0, 1, 1024, 10, 0, 10, 128, 128, 0, 0, 21, 12, 0);
        Due.path(tracked("x", "6yy", 10), 0, 0, 960, 9, 1, 10, 64, 128, 177, 91, 191, 55, 199);
    }

    private static void noSolution() {
        Due.says("If no time was good, the try fails; it fails, too, if linear equations have no solution.");
        // The slopes of the system at 512 are 0 with this GAMMA.
        PathTracker t = Due.with("x", "y", and(new int[] {6, -1, 7, 0}, 1, 256, 0, 256));
        t.track(0, 1);
        Due.path(t, 0, 0, 256, 1, 0, 10, 256, 256, 1500, 0, 1500, 0);
        t.track(0, 1);
        Due.path(t, 0, 0, 256, 1, 1, 10, 128, 256, 1500, 0, 1500, 0);
        // Two equations that are one have no solution at the end.
        Due.path(tracked("x", "x", 10), 0, 0, 960, 9, 1, 10, 64, 128, 180, 90, 178, 95, 180);
    }

    private static void threeInARow() {
        Due.says("with three in a row the step becomes twice as great, at most the greatest step of the path, and the row begins anew with 0");
        PathTracker t = Due.with("x", "y", 0, 3, 1, 200);
        int[] steps = {3, 3, 6, 6, 6, 12, 12, 12, 24, 24, 24, 48, 48, 48, 96, 96, 96, 192, 192};
        int place = 0;
        int before = 3;
        for (int k = 0; k < steps.length; k++) {
            place = Math.min(1024, place + before);
            Due.is("track(0, 1)", t.track(0, 1), 1);
            Due.path(t, 0, place == 1024 ? 1 : 0, place, k + 1, 0, 10, steps[k], 200);
            before = steps[k];
        }
    }

    private static void greatestStep() {
        Due.says("with three in a row the step becomes twice as great, at most the greatest step of the path, and the row begins anew with 0");
        PathTracker t = tracked("x", "y", 2, 0, 64, 1, 100);
        Due.is("2 in a row", t.path(0, 5), 64);
        t.track(0, 1);
        Due.is("100 and not 128", t.path(0, 5), 100);
        t.track(0, 3);
        Due.path(t, 0, 0, 492, 6, 0, 10, 100, 100);
        PathTracker one = tracked("x", "y", 200, 0, 1, 1, 1);
        Due.is("a greatest step of 1", one.path(0, 5), 1);
        PathTracker half = Due.with("x", "y", 0, 64, 1, 127);
        Due.is("again(0)", half.again(0), 63);
        half.track(0, 6);
        Due.path(half, 0, 0, 378, 6, 0, 10, 63, 63);
    }

    // 32 y and this GAMMA: tries to 171 and 342 are good, to 513 none, to 427 good, to 512 none.
    private static void rowBeginsAnew() {
        Due.says("If it fails, all stays, but the row begins anew with 0");
        PathTracker t = Due.with("x", "32y", 6, -1, 7, 0, 0, 171, 1, 171);
        t.track(0, 2);
        Due.path(t, 0, 0, 342, 2, 0, 10, 171, 171, 2003, 0, -65, 0, 2093);
        t.track(0, 1);
        Due.path(t, 0, 0, 342, 2, 1, 10, 85, 171, 2003, 0, -65, 0, 2093);
        t.track(0, 1);
        Due.path(t, 0, 0, 427, 3, 1, 10, 85, 171, 3511, 0, -44, 0, 3511);
        t.track(0, 1);
        Due.path(t, 0, 0, 427, 3, 2, 10, 42, 171, 3511, 0, -44, 0, 3511);
        t.track(0, 1);
        Due.path(t, 0, 0, 469, 4, 2, 10, 42, 171, 6448, 0, -37, 0, 6448);
    }

    // Eight good tries, two of them since the step was doubled, and one that fails.
    private static void rowBehindAFailedTry() {
        Due.says("If it fails, all stays, but the row begins anew with 0");
        PathTracker t = Due.of("x^2+y^2-5", "xy-2");
        t.track(2, 8);
        Due.path(t, 2, 0, 832, 8, 0, 10, 128, 128, -745, -654, 2448, -253, 3990);
        t.track(2, 1);
        Due.path(t, 2, 0, 832, 8, 1, 10, 64, 128, -745, -654, 2448, -253, 3990);
        t.track(2, 1);
        Due.path(t, 2, 0, 896, 9, 1, 10, 64, 128);
        t.track(2, 1);
        Due.path(t, 2, 0, 960, 10, 1, 10, 64, 128);
        t.track(2, 1);
        Due.path(t, 2, 1, 1024, 11, 1, 10, 128, 128, 1000, 0, 2000, 0, 2);
    }

    private static void goodTry() {
        Due.says("If the try is good, the point is the new one, T is T + h, and it was one good step more in a row");
        PathTracker t = tracked("x-5", "y-1", 1, PLAIN);
        Due.path(t, 0, 0, 256, 1, 0, 10, 256, 256, 2000, 0, 1000, 0, 3000);
        t.track(0, 3);
        Due.path(t, 0, 1, 1024, 4, 0, 10, 256, 256, 5000, 0, 1000, 0, 0);
        // The slopes of y - 3 by x, and of x - 3 by y, are 0: (x - 1) * 3 + (y - 3) is 0.
        PathTracker turned = tracked("y-3", "x-3", 1, PLAIN);
        Due.path(turned, 0, 0, 256, 1, 0, 10, 256, 256, 1500, 0, 1500, 0, 1500);
    }

    private static void boundReached() {
        Due.says("If the size of x or of y is greater than BOUND * U then, the path has gone to infinity; otherwise, if T is 1024, it is at its end.");
        String[][] texts = {{"x-2", "y"}, {"x+2", "y"}, {"x-2i", "y"}, {"x+2i", "y"}, {"x", "y-2"}, {"x", "y+2"}, {"x", "y-2i"}, {"x", "y+2i"}};
        int[] parts = {2000, -2000, 2000, -2000, 2000, -2000, 2000, -2000};
        for (int k = 0; k < texts.length; k++) {
            PathTracker t = tracked(texts[k][0], texts[k][1], 10, 6, 1, 7, 0, 4, 2);
            Due.path(t, 0, 1, 1024, 10, 0, 10, 128, 128);
            Due.is("it is at the bound", t.path(0, 7 + k / 2), parts[k]);
        }
        PathTracker t = tracked("x-500", "y", 10, 4, 500, 6, 1, 7, 0);
        Due.path(t, 0, 1, 1024, 10, 0, 10, 128, 128, 500000, 0, 0, 0);
    }

    // The part comes to 2049 units, which is told as 2000 thousandths.
    private static void boundLeft() {
        Due.says("If the size of x or of y is greater than BOUND * U then, the path has gone to infinity; otherwise, if T is 1024, it is at its end.");
        String[][] texts = {
            {"x-1-y", "998y-999"}, {"x+1+y", "998y-999"}, {"x-i-iy", "998y-999"}, {"x+i+iy", "998y-999"},
            {"998x-999", "y-1-x"}, {"998x-999", "y+1+x"}, {"998x-999", "y-i-ix"}, {"998x-999", "y+i+ix"}
        };
        for (int k = 0; k < texts.length; k++) {
            PathTracker t = tracked(texts[k][0], texts[k][1], 10, 6, 1, 7, 0, 4, 2);
            Due.path(t, 0, 2, 1024, 10, 0, 10, 128, 128);
            Due.is("it is a unit behind the bound", t.path(0, 7 + k / 2), k % 2 == 0 ? 2000 : -2000);
            Due.is("gone", t.count(11), 1);
            Due.is("no end", t.count(10), 0);
        }
    }

    private static void boundBeforeTheEnd() {
        Due.says("If the size of x or of y is greater than BOUND * U then, the path has gone to infinity");
        // 1 + 997 * 512 / 1024 is 499.5.
        PathTracker stays = tracked("x-998", "y", 2, and(PLAIN, 4, 500));
        Due.path(stays, 0, 0, 512, 2, 0, 10, 256, 256, 499500, 0, 500, 0);
        PathTracker gone = tracked("x-998", "y", 2, and(PLAIN, 4, 499));
        Due.path(gone, 0, 2, 512, 2, 0, 10, 256, 256, 499500, 0, 500, 0);
        Due.is("it is not on its way", gone.track(0, 1), Due.IMPOSSIBLE);
        PathTracker y = tracked("999-y", "954x", 1);
        Due.path(y, 0, 2, 64, 1, 0, 10, 64, 128, -14171, 5303, 157115, -216515);
        PathTracker near = Due.of("x^2-1", "99x");
        near.track(1, 8);
        Due.path(near, 1, 2, 832, 8, 0, 10, 128, 128, -1000, 0, 100000, -66000);
        // At the precision 18 the bound is 100 * 262144 units.
        PathTracker sharp = tracked("xy-1", "xy+x-1", 20);
        Due.path(sharp, 0, 0, 1020, 14, 6, 10, 2, 128, 162, -182, 2725, 3125);
        Due.is("until it is lost", sharp.track(0, 200), 10);
        Due.path(sharp, 0, 3, 1022, 15, 15, 18, 1, 128, 127, -144, 3437, 3927);
        PathTracker far = tracked("-xy^2+1", "-500+yx", 25, 7, 16);
        Due.path(far, 0, 2, 1024, 17, 8, 18, 64, 128, 3321, 3218, 3064692, 4015992);
    }

    private static void stepIsHalved() {
        Due.says("if the step of the path is above 1, it is halved");
        PathTracker t = Due.with("999x^3-1", "y", 0, 25, 2, 1, 3, 1);
        int[] steps = {12, 6, 3, 1};
        for (int k = 0; k < steps.length; k++) {
            Due.is("track(0, 1)", t.track(0, 1), 1);
            Due.path(t, 0, 0, 0, 0, k + 1, 10, steps[k], 128, 1000, 0, 1000, 0, 998000);
        }
        Due.says("otherwise, if the precision is 10, it becomes 18");
        t.track(0, 1);
        Due.path(t, 0, 0, 0, 0, 5, 18, 25, 128, 1000, 0, 1000, 0, 998000);
        PathTracker two = Due.with("999x^3-1", "y", 0, 2, 2, 1, 3, 1);
        two.track(0, 1);
        Due.path(two, 0, 0, 0, 0, 1, 10, 1, 128);
        two.track(0, 1);
        Due.path(two, 0, 0, 0, 0, 2, 18, 2, 128);
        PathTracker one = Due.with("999x^3-1", "y", 0, 1, 2, 1, 3, 1);
        one.track(0, 1);
        Due.path(one, 0, 0, 0, 0, 1, 18, 1, 128);
    }

    // From 960 on h is 64 alone; the step of the path is 128.
    private static void stepOfThePathIsHalved() {
        Due.says("if the step of the path is above 1, it is halved");
        PathTracker t = tracked("x", "x", 9);
        Due.path(t, 0, 0, 960, 9, 0, 10, 128, 128);
        t.track(0, 1);
        Due.path(t, 0, 0, 960, 9, 1, 10, 64, 128, 180, 90, 178, 95, 180);
        t.track(0, 1);
        Due.path(t, 0, 0, 960, 9, 2, 10, 32, 128, 180, 90, 178, 95, 180);
    }

    private static void secondPrecision() {
        Due.says("it becomes 18: all parts of the point are taken times 256, held, and the step is START again, at most the greatest step of the path");
        PathTracker t = Due.with("999x^3-1", "y", 0, 200, 2, 1, 3, 1);
        t.track(0, 7);
        Due.path(t, 0, 0, 0, 0, 7, 10, 1, 128, 1000, 0, 1000, 0, 998000);
        t.track(0, 1);
        Due.path(t, 0, 0, 0, 0, 8, 18, 128, 128, 1000, 0, 1000, 0, 998000);
        Due.is("again(0)", t.again(0), 64);
        t.track(0, 7);
        Due.path(t, 0, 0, 0, 0, 7, 18, 64, 64, 1000, 0, 1000, 0, 998000);
        PathTracker all = Due.with("999x^3-1", "y^3-3", 0, 1, 1, 1, 2, 1, 3, 1);
        int[] re = {1000, -500, -500};
        int[] im = {0, 865, -865};
        for (int k = 0; k < 9; k++) {
            all.track(k, 1);
            Due.path(all, k, 0, 0, 0, 1, 18, 1, 1, re[k / 3], im[k / 3], re[k % 3], im[k % 3]);
        }
        PathTracker least = Due.with("999iyx", "xy^2", 0, 256, 1, 1, 2, 1);
        least.track(0, 1);
        Due.path(least, 0, 0, 0, 0, 1, 18, 1, 1, 1000, 0, 1000, 0, 999000);
    }

    private static void lost() {
        Due.says("otherwise the path is lost");
        PathTracker t = Due.with("999x^3-1", "y", 0, 25, 2, 1, 3, 1);
        t.track(0, 9);
        Due.path(t, 0, 0, 0, 0, 9, 18, 1, 128, 1000, 0, 1000, 0, 998000);
        Due.is("on its way", t.count(9), 3);
        t.track(0, 1);
        Due.path(t, 0, 3, 0, 0, 10, 18, 1, 128, 1000, 0, 1000, 0, 998000);
        Due.is("lost", t.count(12), 1);
        Due.is("on their way", t.count(9), 2);
        Due.is("not on its way", t.track(0, 1), Due.IMPOSSIBLE);
        PathTracker two = Due.with("999x^3-1", "y", 0, 1, 1, 1, 2, 1, 3, 1);
        Due.is("two tries", two.track(0, 200), 2);
        Due.path(two, 0, 3, 0, 0, 2, 18, 1, 1);
    }

    private static void trackCounts() {
        Due.says("Follows a path: tries are made until it is not on its way any more, or as many were made. This is a change.");
        PathTracker t = new PathTracker();
        Due.is("as many", t.track(0, 1), 1);
        Due.is("as many", t.track(0, 8), 8);
        Due.is("until it is at its end", t.track(0, 2), 1);
        Due.is("each one is a change", t.count(16), 3);
        PathTracker exact = new PathTracker();
        Due.is("both", exact.track(0, 10), 10);
        Due.is("at its end", exact.path(0, 0), 1);
        PathTracker failing = Due.with("999x^3-1", "y", 0, 25, 2, 1, 3, 1);
        Due.is("tries that fail are tries", failing.track(0, 4), 4);
        Due.is("until it is lost", failing.track(0, 200), 6);
        Due.is("until it has gone", Due.of("x-300", "y").track(0, 200), 7);
    }

    private static void trackRefused() {
        Due.says("Returns how many tries were made; INVALID_ARGUMENT; NOT_POSSIBLE if it is not on its way.");
        PathTracker t = Due.of("x^2-1", "y");
        t.track(0, 200);
        int[] before = Due.seen(t);
        for (int tries : new int[] {0, 201, -1, -200, Integer.MIN_VALUE, Integer.MAX_VALUE}) {
            Due.is("track(1, " + tries + ")", t.track(1, tries), Due.INVALID);
            Due.is("track(0, " + tries + ")", t.track(0, tries), Due.INVALID);
        }
        Due.is("track(2, 1)", t.track(2, 1), Due.INVALID);
        for (int odd : Due.ODD) {
            Due.is("track(" + odd + ", 1)", t.track(odd, 1), Due.INVALID);
        }
        Due.is("at its end", t.track(0, 1), Due.IMPOSSIBLE);
        Due.is("at its end", t.track(0, 200), Due.IMPOSSIBLE);
        Due.same("it changes nothing", Due.seen(t), before);
        Due.says("`tries`: 1 to 200");
        Due.is("1", t.track(1, 1), 1);
        Due.is("200", t.track(1, 200), 9);
    }

    private static void trackAllCounts() {
        Due.says("Follows all paths that are on their way, one after the other, each as by track(). This is a change.");
        PathTracker t = Due.of("x^2-1", "y^2-1");
        t.track(2, 200);
        Due.is("three are on their way", t.trackAll(9), 3);
        for (int k = 0; k < 4; k++) {
            Due.path(t, k, k == 2 ? 1 : 0, k == 2 ? 1024 : 960, k == 2 ? 10 : 9);
        }
        Due.is("one change", t.count(16), 4);
        Due.says("Returns how many paths are on their way then; INVALID_ARGUMENT.");
        Due.is("the last try", t.trackAll(1), 0);
        Due.is("none is on its way", t.trackAll(1), 0);
        Due.path(t, 2, 1, 1024, 10);
        PathTracker history = new PathTracker();
        history.track(0, 200);
        Due.is("nothing to follow", history.trackAll(1), 0);
        Due.is("and yet it is a change", history.count(16), 2);
        PathTracker lost = Due.with("999x^3-1", "y", 0, 1, 1, 1, 2, 1, 3, 1);
        Due.is("1 try each", lost.trackAll(1), 3);
        Due.is("2 tries each", lost.trackAll(1), 0);
        Due.is("lost", lost.count(12), 3);
    }

    private static void trackAllRefused() {
        Due.says("Returns how many paths are on their way then; INVALID_ARGUMENT.");
        PathTracker t = Due.of("x^2-1", "y");
        int[] before = Due.seen(t);
        for (int tries : new int[] {0, 201, -1, -200, Integer.MIN_VALUE, Integer.MAX_VALUE}) {
            Due.is("trackAll(" + tries + ")", t.trackAll(tries), Due.INVALID);
        }
        Due.same("it changes nothing", Due.seen(t), before);
        Due.says("`tries`: 1 to 200");
        Due.is("1", t.trackAll(1), 2);
        Due.is("200", t.trackAll(200), 0);
    }
}
