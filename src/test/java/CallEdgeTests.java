import java.io.IOException;

// The boundaries that the document names under "Changes" and with the constants,
// in the promises 16 to 18, and of all calls. The path of DOC.md is the argument.
public final class CallEdgeTests {
    public static void main(String[] args) throws IOException {
        Due.document(args);
        rootsAlongPaths();
        constants();
        whatIsAChange();
        whatIsNoChange();
        changesThatChangeNothing();
        equationBeginsPaths();
        settingsBeginPaths();
        nearBeginsNoPath();
        historyOfFour();
        recordedBefore();
        whatIsInAState();
        textIsInNoState();
        slotsAreInNoState();
        historyIsInNoState();
        orderOfErrors();
        errorsChangeNothing();
        undoOfNothing();
        undoIsNoChange();
        slots();
        slotIsKept();
        slotIsReplaced();
        slotsAreApart();
        emptySlots();
        calls512();
        objectsAreApart();
        Due.end("CallEdgeTests");
    }

    private static void rootsAlongPaths() {
        Due.says("Roots of two equations in x and y, found along paths: equations read from a text, a start system by their degrees,"
            + " complex numbers in whole numbers of two precisions, paths that are followed by a predictor and a corrector in steps"
            + " that are halved until the corrections shrink and doubled again, paths that go to infinity or are lost, ends that"
            + " meet, paths that are followed again with shorter steps, orders of ends, undo, and saved states.");
        PathTracker t = Due.of("x^2+y^2-5", "xy-2");
        Due.is("four paths", t.save(0), 4);
        Due.is("none is left on its way", t.trackAll(200), 0);
        // (-2, -1), (-1, -2), (1, 2) and (2, 1), to a thousandth or two.
        int[][] roots = {{-2000, -1000}, {-1000, -2000}, {1000, 2000}, {2000, 1000}};
        for (int k = 0; k < 4; k++) {
            int path = t.endAt(k);
            Due.is("x", Math.abs(t.path(path, 7) - roots[k][0]) <= 2 ? 1 : 0, 1);
            Due.is("y", Math.abs(t.path(path, 9) - roots[k][1]) <= 2 ? 1 : 0, 1);
            Due.is("x.im and y.im", Math.abs(t.path(path, 8)) + Math.abs(t.path(path, 10)) <= 2 ? 1 : 0, 1);
            Due.is("the values there", t.path(path, 11) <= 10 ? 1 : 0, 1);
        }
        int second = t.endAt(1);
        int tries = t.path(second, 2) + t.path(second, 3);
        Due.is("again", t.again(second), 64);
        Due.is("shorter steps are more of them", t.track(second, 200) > tries ? 1 : 0, 1);
        Due.is("the same end", t.endAt(1), second);
        t.restore(0);
        Due.is("on their way again", t.count(9), 4);
        t.undo();
        Due.is("at their ends again", t.count(10), 4);
    }

    private static void constants() {
        Due.says("The constants: `INVALID_ARGUMENT = -2000000001`: An argument is out of its range, or there is no such equation, path or slot.");
        Due.is("INVALID_ARGUMENT", PathTracker.INVALID_ARGUMENT, -2000000001);
        Due.says("`NOT_POSSIBLE = -2000000002`: The call is not possible in the present state.");
        Due.is("NOT_POSSIBLE", PathTracker.NOT_POSSIBLE, -2000000002);
        Due.says("`LIMIT_REACHED = -2000000003`: A fixed limit has been reached.");
        Due.is("LIMIT_REACHED", PathTracker.LIMIT_REACHED, -2000000003);
        Due.says("`NOT_FOUND = -2000000004`: There is no such value.");
        Due.is("NOT_FOUND", PathTracker.NOT_FOUND, -2000000004);
    }

    private static void whatIsAChange() {
        Due.says("The changes are the calls of equation, set, track, trackAll, again and restore that return no error.");
        PathTracker t = new PathTracker();
        Due.type(t, "x^2-1");
        t.save(0);
        Due.is("at first", t.count(16), 0);
        Due.is("equation", t.equation(0), 2);
        Due.is("equation", t.count(16), 1);
        Due.is("set", t.set(5, 11), 10);
        Due.is("set", t.count(16), 2);
        Due.is("track", t.track(0, 1), 1);
        Due.is("track", t.count(16), 3);
        Due.is("trackAll", t.trackAll(1), 2);
        Due.is("trackAll", t.count(16), 4);
        for (int k = 3; k >= 0; k--) {
            Due.is("undo", t.undo(), k);
        }
        Due.is("again", t.again(0), 64);
        Due.is("again", t.count(16), 1);
        Due.is("restore", t.restore(0), 1);
        Due.is("restore", t.count(16), 2);
    }

    private static void whatIsNoChange() {
        Due.says("The changes are the calls of equation, set, track, trackAll, again and restore that return no error.");
        PathTracker t = new PathTracker();
        Due.type(t, "x+");
        t.type(32);
        t.fault();
        Due.is("equation of a fault", t.equation(0), Due.IMPOSSIBLE);
        t.wipe();
        Due.is("equation of no degree", t.equation(0), Due.IMPOSSIBLE);
        Due.type(t, "7");
        Due.is("equation of no degree", t.equation(0), Due.IMPOSSIBLE);
        Due.is("no such equation", t.equation(2), Due.INVALID);
        Due.is("no such setting", t.set(8, 1), Due.INVALID);
        Due.is("no such value", t.set(2, 7), Due.INVALID);
        Due.is("no such path", t.track(1, 1), Due.INVALID);
        Due.is("no tries", t.track(0, 0), Due.INVALID);
        Due.is("no tries", t.trackAll(0), Due.INVALID);
        Due.is("no such path", t.again(1), Due.INVALID);
        Due.is("no such slot", t.restore(2), Due.INVALID);
        Due.is("nothing was saved", t.restore(1), Due.IMPOSSIBLE);
        Due.is("nothing to undo", t.undo(), Due.IMPOSSIBLE);
        t.save(0);
        t.save(1);
        Due.seen(t);
        Due.is("no change", t.count(16), 0);
    }

    // They return no error, and so they are recorded.
    private static void changesThatChangeNothing() {
        Due.says("Each change first records the state before it");
        PathTracker t = new PathTracker();
        t.set(5, 10);
        Due.is("set to what it was", t.count(16), 1);
        t.trackAll(200);
        t.trackAll(200);
        Due.is("none on its way", t.count(16), 3);
        PathTracker same = new PathTracker();
        same.save(1);
        same.restore(1);
        Due.is("restored to what it was", same.count(16), 1);
        Due.type(same, "x");
        same.equation(0);
        Due.is("the same equation", same.count(16), 2);
        same.set(1, 1);
        same.again(0);
        Due.is("the same greatest step", same.count(16), 4);
    }

    private static void equationBeginsPaths() {
        Due.says("By equation, and by set but for the setting 5, all paths begin, with all as at first.");
        for (int number = 0; number < 2; number++) {
            PathTracker t = Due.with("999x^2-1", "y^2-2", 2, 1, 3, 1, 0, 8);
            t.trackAll(200);
            t.again(1);
            Due.type(t, number == 0 ? "x^2-3" : "y^2-3");
            Due.is("equation(" + number + ")", t.equation(number), 2);
            for (int k = 0; k < 4; k++) {
                Due.path(t, k, 0, 0, 0, 0, 10, 8, 128, k < 2 ? 1000 : -1000, 0, k % 2 == 0 ? 1000 : -1000, 0);
            }
        }
        PathTracker row = Due.with("x^2-1", "y^2-1", 0, 8);
        for (int number = 0; number < 2; number++) {
            row.trackAll(2);
            Due.type(row, number == 0 ? "x^2-1" : "y^2-1");
            row.equation(number);
            row.trackAll(1);
            Due.path(row, 3, 0, 8, 1, 0, 10, 8, 128);
            row.trackAll(2);
            Due.path(row, 3, 0, 24, 3, 0, 10, 16, 128);
        }
    }

    private static void settingsBeginPaths() {
        Due.says("By equation, and by set but for the setting 5, all paths begin, with all as at first.");
        int[] settings = {0, 1, 2, 3, 4, 6, 7};
        int[] same = {8, 128, 3, 4, 100, 3, 2};
        for (int k = 0; k < settings.length; k++) {
            PathTracker t = Due.with("x^2-1", "y", 0, 8);
            t.again(1);
            t.trackAll(2);
            Due.is("set to what it was", t.set(settings[k], same[k]), same[k]);
            Due.path(t, 0, 0, 0, 0, 0, 10, 8, 128, 1000, 0, 1000, 0, 1000);
            Due.path(t, 1, 0, 0, 0, 0, 10, 8, 128, -1000, 0, 1000, 0, 1000);
            t.trackAll(1);
            Due.path(t, 0, 0, 8, 1, 0, 10, 8, 128);
            Due.path(t, 1, 0, 8, 1, 0, 10, 8, 128);
        }
        PathTracker sharp = Due.with("999x^3-1", "y", 0, 25, 2, 1, 3, 1);
        sharp.track(0, 200);
        Due.path(sharp, 0, 3, 0, 0, 10, 18, 1, 128);
        sharp.set(2, 6);
        Due.path(sharp, 0, 0, 0, 0, 0, 10, 25, 128, 1000, 0, 1000, 0, 998000);
    }

    private static void nearBeginsNoPath() {
        Due.says("By equation, and by set but for the setting 5, all paths begin");
        PathTracker t = Due.with("x^2-1", "y", 0, 8);
        t.again(1);
        t.trackAll(2);
        Due.is("set(5, 1000)", t.set(5, 1000), 10);
        Due.path(t, 0, 0, 16, 2, 0, 10, 8, 128);
        Due.path(t, 1, 0, 16, 2, 0, 10, 8, 64);
        t.trackAll(1);
        Due.path(t, 0, 0, 24, 3, 0, 10, 16, 128);
        Due.path(t, 1, 0, 24, 3, 0, 10, 16, 64);
        t.trackAll(200);
        Due.is("set(5, 0)", t.set(5, 0), 1000);
        Due.is("ends stay", t.count(10), 2);
        Due.is("it is recorded", t.undo(), 3);
        Due.is("it is in the state", t.count(5), 1000);
    }

    private static void historyOfFour() {
        Due.says("a history of at most 4 states is kept, and when one more is recorded, the oldest one is dropped.");
        PathTracker t = new PathTracker();
        for (int k = 1; k <= 9; k++) {
            t.set(5, k);
            Due.is("states", t.count(16), Math.min(k, 4));
        }
        for (int k = 8; k >= 5; k--) {
            Due.is("states left", t.undo(), k - 5);
            Due.is("NEAR", t.count(5), k);
        }
        Due.is("the one before was dropped", t.undo(), Due.IMPOSSIBLE);
        Due.is("NEAR", t.count(5), 5);
        // Four kept, two taken back, three more: the oldest one is dropped again.
        for (int k = 11; k <= 14; k++) {
            t.set(5, k);
        }
        t.undo();
        t.undo();
        Due.is("NEAR", t.count(5), 12);
        for (int k = 21; k <= 23; k++) {
            t.set(5, k);
        }
        Due.is("states", t.count(16), 4);
        int[] near = {22, 21, 12, 11};
        for (int k = 0; k < 4; k++) {
            Due.is("states left", t.undo(), 3 - k);
            Due.is("NEAR", t.count(5), near[k]);
        }
        Due.is("the one before was dropped", t.undo(), Due.IMPOSSIBLE);
    }

    private static void recordedBefore() {
        Due.says("Each change first records the state before it");
        PathTracker t = Due.with("x^2-1", "y", 0, 8);
        t.save(0);
        t.trackAll(2);
        int[] before = seenPaths(t);
        Due.type(t, "y^3-1");
        t.equation(1);
        t.undo();
        Due.same("equation", seenPaths(t), before);
        t.set(6, 5);
        t.undo();
        Due.same("set", seenPaths(t), before);
        t.track(1, 200);
        t.undo();
        Due.same("track", seenPaths(t), before);
        t.trackAll(200);
        t.undo();
        Due.same("trackAll", seenPaths(t), before);
        t.again(0);
        t.undo();
        Due.same("again", seenPaths(t), before);
        t.restore(0);
        t.undo();
        Due.same("restore", seenPaths(t), before);
        t.trackAll(1);
        Due.path(t, 0, 0, 24, 3, 0, 10, 16, 128);
    }

    // What is seen but for the text and the history.
    private static int[] seenPaths(PathTracker t) {
        int[] seen = Due.seen(t);
        seen[15] = 0;
        seen[16] = 0;
        seen[20] = 0;
        return seen;
    }

    // Two states that differ in everything, and each of them back from the history and
    // from a slot: both equations, settings, numbers of paths, and all of each path.
    private static void whatIsInAState() {
        Due.says("A state is everything but the text, the slots and the history.");
        PathTracker t = Due.with("999x^3-1", "y^2-2", 0, 25, 1, 100, 2, 1, 3, 1, 4, 7, 5, 9, 6, -5, 7, 0);
        t.trackAll(3);
        t.track(0, 200);
        t.track(3, 6);
        t.again(5);
        int[] one = seenPaths(t);
        t.save(0);
        Due.set(t, 0, 8, 1, 64, 2, 4, 3, 9, 4, 50, 6, 3, 7, 4, 5, 90);
        Due.type(t, "ix^2-i");
        t.equation(0);
        Due.type(t, "x+y^3-1");
        t.equation(1);
        t.trackAll(2);
        t.track(1, 200);
        int[] two = seenPaths(t);
        t.save(1);
        t.restore(0);
        Due.same("restored", seenPaths(t), one);
        t.restore(1);
        Due.same("restored", seenPaths(t), two);
        t.undo();
        Due.same("undone", seenPaths(t), one);
        t.undo();
        Due.same("undone", seenPaths(t), two);
        t.trackAll(1);
        Due.is("the third one in a row", t.path(0, 5), 16);
    }

    private static void textIsInNoState() {
        Due.says("A state is everything but the text, the slots and the history.");
        PathTracker t = new PathTracker();
        Due.type(t, "x^2");
        t.save(0);
        t.set(5, 1);
        Due.type(t, "-1");
        t.undo();
        Due.is("undo", t.count(15), 5);
        t.restore(0);
        Due.is("restore", t.count(15), 5);
        Due.is("it is whole", t.equation(0), 2);
        Due.coefficient(t, 0, 0, 0, -1, 0);
        t.undo();
        Due.is("undo of equation does not bring it back", t.count(15), 0);
        t.restore(0);
        Due.is("restore does not bring it back", t.count(15), 0);
    }

    private static void slotsAreInNoState() {
        Due.says("A state is everything but the text, the slots and the history.");
        PathTracker t = new PathTracker();
        t.set(5, 1);
        t.save(0);
        t.set(5, 2);
        t.undo();
        t.undo();
        Due.is("NEAR", t.count(5), 10);
        Due.is("the slot stays, behind undo", t.restore(0), 1);
        Due.is("NEAR", t.count(5), 1);
        t.set(5, 3);
        t.save(1);
        t.restore(0);
        Due.is("the slot stays, behind restore", t.restore(1), 1);
        Due.is("NEAR", t.count(5), 3);
    }

    private static void historyIsInNoState() {
        Due.says("A state is everything but the text, the slots and the history.");
        PathTracker t = new PathTracker();
        t.save(0);
        t.set(5, 1);
        t.set(5, 2);
        Due.is("restore", t.restore(0), 1);
        Due.is("the history goes on", t.count(16), 3);
        Due.is("undo", t.undo(), 2);
        Due.is("NEAR", t.count(5), 2);
        Due.is("undo", t.undo(), 1);
        Due.is("NEAR", t.count(5), 1);
        t.set(5, 4);
        t.set(5, 5);
        t.set(5, 6);
        Due.is("the history is full", t.count(16), 4);
        t.restore(0);
        Due.is("a restore is recorded in place of the oldest one", t.count(16), 4);
        int[] near = {6, 5, 4, 1};
        for (int want : near) {
            t.undo();
            Due.is("NEAR", t.count(5), want);
        }
        Due.is("the oldest one was dropped", t.undo(), Due.IMPOSSIBLE);
    }

    private static void orderOfErrors() {
        Due.says("If several errors apply to a call, INVALID_ARGUMENT is returned rather than NOT_POSSIBLE, NOT_POSSIBLE rather than"
            + " LIMIT_REACHED, and LIMIT_REACHED rather than NOT_FOUND.");
        PathTracker full = new PathTracker();
        for (int k = 0; k < 60; k++) {
            full.type('x');
        }
        Due.is("type: no such character, and no room", full.type(32), Due.INVALID);
        Due.is("type: no such character, and no room", full.type(127), Due.INVALID);
        Due.is("type: no room", full.type(33), Due.LIMIT);
        Due.is("equation: none, and a fault", full.equation(2), Due.INVALID);
        Due.is("equation: none, and a fault", full.equation(-1), Due.INVALID);
        full.wipe();
        Due.type(full, "5");
        Due.is("equation: none, and no degree", full.equation(2), Due.INVALID);
        Due.is("equation: no degree", full.equation(1), Due.IMPOSSIBLE);
        PathTracker t = Due.of("x^2-1", "y");
        t.track(0, 200);
        Due.is("track: no tries, and not on its way", t.track(0, 0), Due.INVALID);
        Due.is("track: too many tries, and not on its way", t.track(0, 201), Due.INVALID);
        Due.is("track: not on its way", t.track(0, 200), Due.IMPOSSIBLE);
        Due.is("meets: none such", t.meets(2), Due.INVALID);
        Due.is("meets: not at its end, and meets none", t.meets(1), Due.IMPOSSIBLE);
        Due.is("meets: meets none", t.meets(0), Due.NONE);
        Due.is("endAt: negative, and none there", t.endAt(-1), Due.INVALID);
        t.set(6, 0);
        Due.is("set: out of range", t.set(7, 17), Due.INVALID);
        Due.is("set: both 0", t.set(7, 0), Due.IMPOSSIBLE);
        Due.is("restore: no such slot, and nothing saved", t.restore(2), Due.INVALID);
        Due.is("restore: nothing saved", t.restore(1), Due.IMPOSSIBLE);
    }

    // A path on its way, one at its end; a text; two states in the history; one slot.
    private static void errorsChangeNothing() {
        Due.says("A call that returns an error changes nothing.");
        PathTracker t = new PathTracker();
        Due.type(t, "x^2-1");
        t.equation(0);
        t.set(6, 0);
        t.save(0);
        t.undo();
        t.set(6, 0);
        t.track(0, 200);
        t.track(1, 2);
        Due.type(t, "x+y-");
        int[] before = Due.seen(t);
        int[] errors = {
            t.type(32), t.type(127), t.type(-1), t.equation(-1), t.equation(2), t.equation(0), t.equation(1),
            t.coefficient(2, 0, 0, 0), t.coefficient(0, 4, 0, 0), t.coefficient(0, 2, 2, 0), t.coefficient(0, 0, 0, 2),
            t.track(-1, 1), t.track(2, 1), t.track(1, 0), t.track(1, 201), t.track(0, 1), t.trackAll(0), t.trackAll(201),
            t.again(-1), t.again(2), t.path(2, 0), t.path(0, 12), t.meets(2), t.meets(1), t.meets(0), t.endAt(-1), t.endAt(1),
            t.set(-1, 1), t.set(8, 1), t.set(0, 0), t.set(0, 257), t.set(5, -1), t.set(7, 0), t.set(7, 17),
            t.count(-1), t.count(19), t.save(-1), t.save(2), t.restore(-1), t.restore(2), t.restore(1)
        };
        for (int k = 0; k < errors.length; k++) {
            Due.is("error " + k, errors[k] <= -2000000001 && errors[k] >= -2000000004 ? 1 : 0, 1);
        }
        Due.same("it changes nothing", Due.seen(t), before);
        t.track(1, 1);
        Due.is("the third one in a row", t.path(1, 5), 128);
        Due.is("the slot stays", t.restore(0), 2);
        Due.is("it was saved before", t.count(6), 0);
        Due.is("a full text", fullText(), 60);
        PathTracker empty = new PathTracker();
        before = Due.seen(empty);
        Due.is("undo", empty.undo(), Due.IMPOSSIBLE);
        Due.same("it changes nothing", Due.seen(empty), before);
    }

    private static int fullText() {
        PathTracker t = new PathTracker();
        for (int k = 0; k < 70; k++) {
            t.type(k % 2 == 0 ? 'x' : '+');
        }
        return t.fault();
    }

    private static void undoOfNothing() {
        Due.says("Returns how many states are left; NOT_POSSIBLE if it is empty.");
        PathTracker t = new PathTracker();
        Due.is("at first", t.undo(), Due.IMPOSSIBLE);
        t.set(5, 1);
        Due.is("one", t.undo(), 0);
        Due.is("none", t.undo(), Due.IMPOSSIBLE);
        Due.is("none", t.undo(), Due.IMPOSSIBLE);
        t.set(5, 1);
        t.set(5, 2);
        Due.is("two", t.undo(), 1);
        Due.is("one", t.undo(), 0);
        Due.is("none", t.undo(), Due.IMPOSSIBLE);
        Due.is("as at first", t.count(5), 10);
    }

    private static void undoIsNoChange() {
        Due.says("Restores the latest state of the history, which is removed from it.");
        PathTracker t = new PathTracker();
        t.set(5, 1);
        t.set(5, 2);
        t.set(5, 3);
        Due.is("undo", t.undo(), 2);
        Due.is("the latest one", t.count(5), 2);
        Due.is("removed", t.count(16), 2);
        Due.is("undo", t.undo(), 1);
        Due.is("the latest one", t.count(5), 1);
        t.set(5, 4);
        Due.is("undo", t.undo(), 1);
        Due.is("the latest one", t.count(5), 1);
        Due.is("undo", t.undo(), 0);
        Due.is("the first one", t.count(5), 10);
    }

    private static void slots() {
        Due.says("`slot`: 0 or 1");
        PathTracker t = Due.of("x^2-1", "y^3-1");
        int[] before = Due.seen(t);
        Due.is("save(-1)", t.save(-1), Due.INVALID);
        Due.is("save(2)", t.save(2), Due.INVALID);
        Due.is("restore(-1)", t.restore(-1), Due.INVALID);
        Due.is("restore(2)", t.restore(2), Due.INVALID);
        for (int odd : Due.ODD) {
            Due.is("save(" + odd + ")", t.save(odd), Due.INVALID);
            Due.is("restore(" + odd + ")", t.restore(odd), Due.INVALID);
        }
        Due.same("it changes nothing", Due.seen(t), before);
        Due.says("Returns how many paths it has; INVALID_ARGUMENT.");
        Due.is("save(0)", t.save(0), 6);
        Due.is("save(1)", t.save(1), 6);
        Due.same("save is no change", Due.seen(t), before);
        Due.type(t, "x-1");
        t.equation(0);
        Due.is("save(1)", t.save(1), 3);
        Due.says("Returns how many paths there are then; INVALID_ARGUMENT; NOT_POSSIBLE if nothing was saved in it.");
        Due.is("restore(0)", t.restore(0), 6);
        Due.is("paths", t.count(8), 6);
        Due.is("restore(1)", t.restore(1), 3);
        Due.is("paths", t.count(8), 3);
    }

    private static void slotIsKept() {
        Due.says("Restores the state that was saved in a slot, which keeps it. This is a change.");
        PathTracker t = new PathTracker();
        t.track(0, 5);
        t.save(1);
        for (int k = 1; k <= 5; k++) {
            t.track(0, 200);
            Due.is("at its end", t.path(0, 0), 1);
            Due.is("restore(1)", t.restore(1), 1);
            Due.path(t, 0, 0, 448, 5, 0, 10, 128, 128);
            Due.is("a change", t.count(16), Math.min(4, 1 + 2 * k));
        }
        t.undo();
        Due.is("undo of restore", t.path(0, 0), 1);
        Due.is("the slot keeps it, behind undo", t.restore(1), 1);
        Due.path(t, 0, 0, 448, 5, 0, 10, 128, 128);
    }

    private static void slotIsReplaced() {
        Due.says("Saves the state in a slot, in place of the one that was saved there.");
        PathTracker t = new PathTracker();
        t.save(0);
        t.set(5, 1);
        t.save(0);
        t.set(5, 2);
        t.restore(0);
        Due.is("the later one", t.count(5), 1);
        t.set(5, 3);
        t.save(0);
        t.undo();
        t.restore(0);
        Due.is("the latest one", t.count(5), 3);
    }

    private static void slotsAreApart() {
        Due.says("Saves the state in a slot, in place of the one that was saved there.");
        PathTracker t = new PathTracker();
        t.set(5, 1);
        t.save(0);
        t.set(5, 2);
        t.save(1);
        t.restore(0);
        Due.is("the slot 0", t.count(5), 1);
        t.restore(1);
        Due.is("the slot 1", t.count(5), 2);
        t.restore(0);
        Due.is("the slot 0", t.count(5), 1);
    }

    private static void emptySlots() {
        Due.says("NOT_POSSIBLE if nothing was saved in it.");
        for (int slot = 0; slot < 2; slot++) {
            PathTracker t = new PathTracker();
            Due.is("empty", t.restore(slot), Due.IMPOSSIBLE);
            t.save(1 - slot);
            Due.is("empty, the other one not", t.restore(slot), Due.IMPOSSIBLE);
            Due.is("no change", t.count(16), 0);
            t.save(slot);
            Due.is("not empty", t.restore(slot), 1);
            Due.is("a change", t.count(16), 1);
        }
    }

    private static void calls512() {
        Due.says("An object is used for at most 512 calls after it has been made; what later calls answer is free.");
        PathTracker t = Due.of("x^3-2", "y^3-x");
        // 12 calls until now, and 125 times 4.
        for (int k = 0; k < 125; k++) {
            Due.is("trackAll(200)", t.trackAll(200), 0);
            Due.is("again(4)", t.again(4), 64);
            Due.is("path(4, 6)", t.path(4, 6), 64);
            Due.is("undo()", t.undo(), 3);
        }
    }

    private static void objectsAreApart() {
        Due.says("Creates the equations x and y, and their path at its begin.");
        PathTracker t = Due.of("x^2-1", "y^2-1");
        int[] before = Due.seen(t);
        PathTracker other = new PathTracker();
        Due.type(other, "x+");
        other.set(0, 1);
        other.trackAll(3);
        other.save(0);
        Due.same("another object", Due.seen(t), before);
        Due.is("the slots of another one", t.restore(0), Due.IMPOSSIBLE);
    }
}
