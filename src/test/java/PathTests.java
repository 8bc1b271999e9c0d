// Promises 7 to 15: track, trackAll, again, path, meets, next, endAt, set, count.
public final class PathTests {
    public static void main(String[] args) {
        trackSteps();
        trackRefused();
        trackHalves();
        trackToInfinity();
        trackIsLost();
        trackAll();
        trackAllRefused();
        again();
        againRefused();
        path();
        pathRefused();
        meets();
        next();
        endAt();
        endsThatAreEqual();
        setRanges();
        setBegins();
        gammaIsNotZero();
        counts();
        Due.end("PathTests");
    }

    // Three good tries double the step, up to 128; the last one is what is left.
    private static void trackSteps() {
        PathTracker t = new PathTracker();
        Due.is("track(0, 2)", t.track(0, 2), 2);
        Due.path(t, 0, 0, 128, 2, 0, 10, 64, 128);
        Due.is("track(0, 1)", t.track(0, 1), 1);
        Due.path(t, 0, 0, 192, 3, 0, 10, 128, 128);
        Due.is("track(0, 200)", t.track(0, 200), 7);
        Due.path(t, 0, 1, 1024, 10, 0, 10, 128, 128, 0, 0, 0, 0, 0);
        Due.is("four changes", t.count(16), 3);
        t.set(0, 1);
        t.set(1, 256);
        int[] places = {1, 2, 3, 5, 7, 9, 13, 17, 21, 29, 37, 45, 61, 77, 93, 125, 157, 189, 253, 317, 381, 509, 637, 765, 1021, 1024};
        for (int place : places) {
            t.track(0, 1);
            Due.is("T", t.path(0, 1), place);
        }
        Due.path(t, 0, 1, 1024, 26, 0, 10, 256, 256);
    }

    private static void trackRefused() {
        PathTracker t = new PathTracker();
        for (int odd : Due.ODD) {
            Due.is("track(odd, 1)", t.track(odd, 1), Due.INVALID);
            Due.is("track(0, odd)", t.track(0, odd), Due.INVALID);
        }
        Due.is("track(1, 1)", t.track(1, 1), Due.INVALID);
        Due.is("track(0, 0)", t.track(0, 0), Due.INVALID);
        Due.is("track(0, 201)", t.track(0, 201), Due.INVALID);
        Due.is("no change", t.count(16), 0);
        Due.is("track(0, 200)", t.track(0, 200), 10);
        Due.is("at its end", t.track(0, 200), Due.IMPOSSIBLE);
        Due.is("at its end, wrong tries", t.track(0, 201), Due.INVALID);
        Due.is("one change", t.count(16), 1);
    }

    // A corrector of one round, which is to be exact, fails on a curve; what
    // each try has to do to the path is told from what the path was before it.
    private static void trackHalves() {
        PathTracker t = Due.of("x^2-4", "y");
        t.set(2, 1);
        t.set(3, 1);
        int[] before = told(t);
        int row = 0;
        boolean halved = false;
        boolean sharpened = false;
        while (before[0] == 0) {
            Due.is("track(0, 1)", t.track(0, 1), 1);
            int[] now = told(t);
            boolean good = now[2] > before[2];
            row = good ? row + 1 : 0;
            int[] want = good ? behindGoodTry(before, row == 3) : behindFailedTry(before);
            row = row == 3 ? 0 : row;
            for (int what = 0; what < (good ? 7 : 11); what++) {
                Due.is("path(0, " + what + ") behind a try from T " + before[1], now[what], want[what]);
            }
            halved |= now[5] * 2 == before[5];
            sharpened |= now[4] > before[4];
            before = now;
        }
        Due.is("a step was halved", halved ? 1 : 0, 1);
        Due.is("the precision became 18", sharpened ? 1 : 0, 1);
        Due.is("the other path stays", t.path(1, 2) + t.path(1, 3), 0);
        Due.is("trackAll(200)", t.trackAll(200), 0);
        Due.path(t, 0, 3, 621, 59, 30, 18, 1, 128, 1367, -136, 716, 124, 2149);
        Due.path(t, 1, 3, 621, 59, 30, 18, 1, 128, -1367, 136, 716, 124, 2149);
    }

    private static int[] told(PathTracker t) {
        int[] told = new int[12];
        for (int what = 0; what < 12; what++) {
            told[what] = t.path(0, what);
        }
        return told;
    }

    private static int[] behindGoodTry(int[] before, boolean third) {
        int[] want = before.clone();
        want[1] = Math.min(1024, before[1] + before[5]);
        want[2]++;
        want[5] = third ? Math.min(before[5] * 2, before[6]) : before[5];
        return want;
    }

    private static int[] behindFailedTry(int[] before) {
        int[] want = before.clone();
        want[3]++;
        if (before[5] > 1) {
            want[5] = before[5] / 2;
        } else if (before[4] == 10) {
            want[4] = 18;
            want[5] = 64;
        } else {
            want[0] = 3;
        }
        return want;
    }

    private static void trackToInfinity() {
        PathTracker t = Due.of("x-300", "y");
        Due.is("track(0, 200)", t.track(0, 200), 7);
        Due.path(t, 0, 2, 704, 7, 0, 10, 128, 128, 111197, -42384, 632, 142);
        Due.is("gone", t.count(11), 1);
        Due.is("no end", t.count(10), 0);
        Due.is("not on its way", t.track(0, 1), Due.IMPOSSIBLE);
        Due.is("set(4, 500)", t.set(4, 500), 100);
        Due.is("track(0, 200)", t.track(0, 200), 10);
        Due.path(t, 0, 1, 1024, 10, 0, 10, 128, 128, 300000, 0, 0, 0, 0);
        t.set(4, 299);
        Due.is("trackAll(200)", t.trackAll(200), 0);
        Due.path(t, 0, 2, 1024, 10);
        t.set(4, 300);
        Due.is("trackAll(200)", t.trackAll(200), 0);
        Due.path(t, 0, 1, 1024, 10);
    }

    // With this GAMMA both slopes are 0 at T = 512: x = (1024 - T) / (1024 - 2 T).
    private static void trackIsLost() {
        PathTracker t = new PathTracker();
        t.set(6, -1);
        t.set(7, 0);
        t.set(1, 64);
        while (t.path(0, 4) == 10) {
            Due.is("track(0, 1)", t.track(0, 1), 1);
        }
        Due.is("T at the other precision", t.path(0, 1) < 512 ? 1 : 0, 1);
        Due.is("its step is START again", t.path(0, 5), 64);
        Due.is("it is on its way", t.count(9), 1);
        Due.is("trackAll(200)", t.trackAll(200), 0);
        Due.path(t, 0, 3, 489, 11, 14, 18, 1, 64, 11630, 0, 11630, 0, 11630);
        Due.is("lost", t.count(12), 1);
        Due.is("not on its way", t.track(0, 1), Due.IMPOSSIBLE);
    }

    private static void trackAll() {
        PathTracker t = Due.of("x^2-1", "y^2-1");
        Due.is("trackAll(2)", t.trackAll(2), 4);
        for (int k = 0; k < 4; k++) {
            Due.path(t, k, 0, 128, 2, 0, 10, 64, 128, k < 2 ? 1000 : -1000, 0, k % 2 == 0 ? 1000 : -1000, 0, 0);
        }
        Due.is("track(1, 200)", t.track(1, 200), 8);
        Due.is("trackAll(7)", t.trackAll(7), 3);
        Due.is("trackAll(1)", t.trackAll(1), 0);
        for (int k = 0; k < 4; k++) {
            Due.path(t, k, 1, 1024, 10, 0, 10, 128, 128);
        }
        Due.is("nothing is left, and yet it is a change", t.trackAll(200), 0);
        Due.is("undo", t.undo(), 3);
        Due.is("undo", t.undo(), 2);
        Due.is("three were on their way", t.count(9), 3);
        Due.is("path 0", t.path(0, 1), 960);
        Due.is("path 1", t.path(1, 1), 1024);
    }

    private static void trackAllRefused() {
        PathTracker t = new PathTracker();
        for (int odd : Due.ODD) {
            Due.is("trackAll(odd)", t.trackAll(odd), Due.INVALID);
        }
        Due.is("trackAll(0)", t.trackAll(0), Due.INVALID);
        Due.is("trackAll(201)", t.trackAll(201), Due.INVALID);
        Due.is("no change", t.count(16), 0);
        Due.path(t, 0, 0, 0, 0, 0);
    }

    private static void again() {
        PathTracker t = Due.of("x^2-1", "y");
        t.trackAll(200);
        int[] greatest = {64, 32, 16, 8, 4, 2, 1, 1};
        for (int want : greatest) {
            Due.is("again(1)", t.again(1), want);
            Due.path(t, 1, 0, 0, 0, 0, 10, want, want, -1000, 0, 1000, 0);
            t.track(1, 3);
        }
        Due.is("the other one stays at its end", t.path(0, 0), 1);
        Due.is("it was recorded", t.count(16), 4);
        t.set(0, 100);
        t.set(1, 129);
        Due.is("an odd one is halved toward 0", t.again(0), 64);
        Due.path(t, 0, 0, 0, 0, 0, 10, 64, 64);
        Due.path(t, 1, 0, 0, 0, 0, 10, 100, 129);
        t.set(0, 5);
        Due.is("again(0)", t.again(0), 64);
        Due.is("the step is START", t.path(0, 5), 5);
        PathTracker high = new PathTracker();
        high.set(6, -1);
        high.set(7, 0);
        high.trackAll(200);
        Due.is("lost at the precision 18", high.path(0, 4), 18);
        Due.is("again(0)", high.again(0), 64);
        Due.path(high, 0, 0, 0, 0, 0, 10, 64, 64, 1000, 0, 1000, 0);
        high.track(0, 3);
        Due.path(high, 0, 0, 192, 3, 0, 10, 64, 64);
    }

    private static void againRefused() {
        PathTracker t = new PathTracker();
        for (int odd : Due.ODD) {
            Due.is("again(odd)", t.again(odd), Due.INVALID);
        }
        Due.is("again(1)", t.again(1), Due.INVALID);
        Due.is("no change", t.count(16), 0);
    }

    private static void path() {
        PathTracker t = Due.of("x^3-8", "y");
        Due.path(t, 2, 0, 0, 0, 0, 10, 64, 128, -500, -865, 1000, 0);
        Due.is("trackAll(200)", t.trackAll(200), 0);
        Due.path(t, 0, 1, 1024, 10, 0, 10, 128, 128, 2000, 0, 0, 0, 10);
        Due.path(t, 1, 1, 1024, 10, 0, 10, 128, 128, -1000, 1732, 0, 0, 2);
        Due.path(t, 2, 1, 1024, 10, 0, 10, 128, 128, -1000, -1731, 0, 0, 14);
        PathTracker values = Due.of("3x-5", "2iy+x");
        Due.is("the greater size: |3 - 5| or |1 + 2i|", values.path(0, 11), 2000);
        PathTracker other = Due.of("3x-9", "2iy+x");
        Due.is("the greater size: |3 - 9| or |1 + 2i|", other.path(0, 11), 6000);
        PathTracker held = Due.of("999x+999y-x^2+999ix^2", "y");
        Due.is("1997 + 999i", held.path(0, 11), 1997000);
    }

    private static void pathRefused() {
        PathTracker t = Due.of("x^2-1", "y");
        for (int odd : Due.ODD) {
            Due.is("path(odd, 0)", t.path(odd, 0), Due.INVALID);
            Due.is("path(0, odd)", t.path(0, odd), Due.INVALID);
        }
        Due.is("path(2, 0)", t.path(2, 0), Due.INVALID);
        Due.is("path(1, 12)", t.path(1, 12), Due.INVALID);
        Due.is("path(1, 11)", t.path(1, 11), 1000);
    }

    private static void meets() {
        PathTracker t = Due.of("4x^2-1", "y");
        Due.is("on its way", t.meets(0), Due.IMPOSSIBLE);
        t.track(0, 200);
        Due.is("the other one is on its way", t.meets(0), Due.NONE);
        t.track(1, 200);
        Due.is("1000 apart", t.meets(0), Due.NONE);
        t.set(5, 999);
        Due.is("NEAR 999", t.meets(0), Due.NONE);
        Due.is("count(13)", t.count(13), 2);
        t.set(5, 1000);
        Due.is("NEAR 1000", t.meets(0), 1);
        Due.is("the other way round", t.meets(1), 0);
        Due.is("count(13)", t.count(13), 1);
        for (int odd : Due.ODD) {
            Due.is("meets(odd)", t.meets(odd), Due.INVALID);
        }
        Due.is("meets(2)", t.meets(2), Due.INVALID);
        t.again(0);
        Due.is("it left its end", t.meets(0), Due.IMPOSSIBLE);
        Due.is("the other one meets none", t.meets(1), Due.NONE);
        PathTracker im = Due.of("4x^2+1", "y");
        im.set(5, 1000);
        im.trackAll(200);
        Due.is("x.im counts", im.meets(1), 0);
        im.set(5, 998);
        Due.is("x.im counts", im.meets(1), Due.NONE);
        PathTracker y = Due.of("x", "4y^2-1");
        y.trackAll(200);
        Due.is("y.re counts", y.meets(1), Due.NONE);
        y.set(5, 1000);
        Due.is("y.re counts", y.meets(1), 0);
        PathTracker yIm = Due.of("x", "4y^2+1");
        yIm.trackAll(200);
        Due.is("y.im counts", yIm.meets(1), Due.NONE);
        yIm.set(5, 1000);
        Due.is("y.im counts", yIm.meets(1), 0);
    }

    private static void next() {
        PathTracker t = Due.of("x^2-1", "y^2-1");
        Due.is("all are equal", t.next(), 0);
        t.track(0, 1);
        Due.is("the least T", t.next(), 1);
        t.again(3);
        t.again(3);
        Due.is("the least step", t.next(), 3);
        t.again(2);
        t.again(2);
        Due.is("the lowest number", t.next(), 2);
        t.track(2, 200);
        t.track(3, 200);
        t.track(1, 1);
        Due.is("the lowest number", t.next(), 0);
        t.track(0, 2);
        Due.is("the least T goes before the least step", t.next(), 1);
        t.trackAll(200);
        Due.is("none", t.next(), Due.NONE);
        Due.is("again(1)", t.again(1), 64);
        Due.is("the only one", t.next(), 1);
    }

    private static void endAt() {
        PathTracker t = Due.of("x^2-1", "y^2-1");
        Due.is("no end yet", t.endAt(0), Due.NONE);
        for (int odd : Due.ODD) {
            Due.is("endAt(odd)", t.endAt(odd), odd < 0 ? Due.INVALID : Due.NONE);
        }
        t.track(1, 200);
        Due.is("one end", t.endAt(0), 1);
        Due.is("no second one", t.endAt(1), Due.NONE);
        t.trackAll(200);
        for (int k = 0; k < 4; k++) {
            Due.is("endAt(" + k + ")", t.endAt(k), 3 - k);
        }
        Due.is("endAt(4)", t.endAt(4), Due.NONE);
        t.again(2);
        Due.is("without the path 2", t.endAt(0), 3);
        Due.is("without the path 2", t.endAt(1), 1);
        Due.is("without the path 2", t.endAt(2), 0);
        Due.is("without the path 2", t.endAt(3), Due.NONE);
        PathTracker im = Due.of("x^2+1", "y^2+1");
        im.trackAll(200);
        Due.is("ends", im.count(10), 4);
        for (int k = 0; k < 4; k++) {
            Due.is("by im, endAt(" + k + ")", im.endAt(k), 3 - k);
        }
    }

    // With steps that are too great two pairs of paths come to the same two ends.
    private static void endsThatAreEqual() {
        PathTracker t = Due.of("x^2-4", "xy-2");
        int[] loose = {5, 0, 6, 1, 7, 0, 3, 64, 2, 6, 1, 256, 0, 256};
        for (int k = 0; k < loose.length; k += 2) {
            t.set(loose[k], loose[k + 1]);
        }
        Due.is("trackAll(200)", t.trackAll(200), 0);
        Due.is("ends", t.count(10), 4);
        Due.is("ends that are apart", t.count(13), 2);
        int[] order = {2, 3, 0, 1};
        int[] met = {1, 0, 3, 2};
        for (int k = 0; k < 4; k++) {
            Due.is("endAt(" + k + ")", t.endAt(k), order[k]);
            Due.is("meets(" + k + ")", t.meets(k), met[k]);
        }
    }

    private static void setRanges() {
        int[] least = {1, 1, 1, 1, 2, 0, -16, -16};
        int[] most = {256, 256, 6, 64, 500, 1000, 16, 16};
        int[] first = {64, 128, 3, 4, 100, 10, 3, 2};
        for (int what = 0; what < 8; what++) {
            PathTracker t = new PathTracker();
            for (int odd : new int[] {least[what] - 1, most[what] + 1, Integer.MIN_VALUE, Integer.MAX_VALUE}) {
                Due.is("set(" + what + ", " + odd + ")", t.set(what, odd), Due.INVALID);
            }
            Due.is("no change", t.count(16), 0);
            Due.is("set to the least", t.set(what, least[what]), first[what]);
            Due.is("set to the most", t.set(what, most[what]), least[what]);
            Due.is("it is set", t.count(what), most[what]);
            Due.is("two changes", t.count(16), 2);
            for (int other = 0; other < 8; other++) {
                if (other != what) {
                    Due.is("the others stay", t.count(other), first[other]);
                }
            }
        }
        PathTracker t = new PathTracker();
        for (int odd : Due.ODD) {
            Due.is("set(odd, 1)", t.set(odd, 1), Due.INVALID);
        }
        Due.is("set(8, 1)", t.set(8, 1), Due.INVALID);
    }

    private static void setBegins() {
        int[] same = {64, 128, 3, 4, 100, 10, 3, 2};
        for (int what = 0; what < 8; what++) {
            PathTracker t = new PathTracker();
            t.again(0);
            t.trackAll(200);
            Due.is("set(" + what + ") to what it is", t.set(what, same[what]), same[what]);
            Due.path(t, 0, what == 5 ? 1 : 0, what == 5 ? 1024 : 0);
            Due.is("the greatest step", t.path(0, 6), what == 5 ? 64 : 128);
            Due.is("it is a change", t.count(16), 3);
        }
        PathTracker t = new PathTracker();
        t.set(0, 200);
        Due.is("START is held to MAX", t.path(0, 5), 128);
        Due.is("START itself is not", t.count(0), 200);
        t.set(1, 256);
        Due.is("a greater MAX", t.path(0, 5), 200);
        t.set(1, 7);
        Due.is("a small MAX", t.path(0, 5), 7);
        Due.is("the greatest step", t.path(0, 6), 7);
    }

    private static void gammaIsNotZero() {
        PathTracker t = new PathTracker();
        Due.is("set(6, 0)", t.set(6, 0), 3);
        Due.is("set(7, 0)", t.set(7, 0), Due.IMPOSSIBLE);
        Due.is("it stays", t.count(7), 2);
        Due.is("set(6, 0) again", t.set(6, 0), 0);
        Due.is("set(6, 17)", t.set(6, 17), Due.INVALID);
        Due.is("two changes", t.count(16), 2);
        Due.is("set(6, -1)", t.set(6, -1), 0);
        Due.is("set(7, 0)", t.set(7, 0), 2);
        Due.is("set(6, 0)", t.set(6, 0), Due.IMPOSSIBLE);
        Due.is("set(7, 0) again", t.set(7, 0), 0);
        Due.is("NEAR may be 0", t.set(5, 0), 10);
    }

    private static void counts() {
        PathTracker t = Due.of("x^2+1", "y^2-1");
        for (int odd : Due.ODD) {
            Due.is("count(odd)", t.count(odd), Due.INVALID);
        }
        Due.is("count(19)", t.count(19), Due.INVALID);
        Due.type(t, "x+");
        t.track(0, 200);
        t.track(3, 200);
        int[] want = {64, 128, 3, 4, 100, 10, 3, 2, 4, 2, 2, 0, 0, 2, 0, 2, 4, 2, 2};
        for (int what = 0; what < want.length; what++) {
            Due.is("count(" + what + ")", t.count(what), want[what]);
        }
        t.set(5, 999);
        Due.is("x.im is 1000", t.count(14), 0);
        t.set(5, 1000);
        Due.is("of a size of NEAR", t.count(14), 2);
        PathTracker y = Due.of("x^2-1", "y^2+1");
        y.trackAll(200);
        Due.is("y.im is 1000", y.count(14), 0);
        y.set(5, 1000);
        Due.is("of a size of NEAR", y.count(14), 4);
        y.again(1);
        Due.is("an end less", y.count(14), 3);
        Due.is("on its way", y.count(9), 1);
        Due.is("at their ends", y.count(10), 3);
    }
}
