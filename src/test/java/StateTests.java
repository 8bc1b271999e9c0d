// Promises 16 to 18: undo, save, restore; and what is a change, and what is not.
public final class StateTests {
    public static void main(String[] args) {
        undo();
        undoBringsAllBack();
        historyDropsTheOldest();
        whatIsNoChange();
        save();
        saveRefused();
        restore();
        restoreRefused();
        Due.end("StateTests");
    }

    private static void undo() {
        PathTracker t = new PathTracker();
        Due.is("nothing to undo", t.undo(), Due.IMPOSSIBLE);
        t.set(0, 32);
        t.set(0, 16);
        Due.is("undo", t.undo(), 1);
        Due.is("START", t.count(0), 32);
        Due.is("undo", t.undo(), 0);
        Due.is("START", t.count(0), 64);
        Due.is("nothing to undo", t.undo(), Due.IMPOSSIBLE);
        Due.is("START", t.count(0), 64);
    }

    private static void undoBringsAllBack() {
        PathTracker t = Due.of("x^2-1", "y");
        t.again(1);
        t.track(0, 4);
        int x = t.path(0, 7);
        t.trackAll(200);
        Due.type(t, "y^3-1");
        t.equation(1);
        Due.is("paths", t.count(8), 6);
        Due.type(t, "xy");
        Due.is("undo of the equation", t.undo(), 3);
        Due.is("paths", t.count(8), 2);
        Due.is("degree", t.count(18), 1);
        Due.is("its term", t.coefficient(1, 0, 3, 0), 0);
        Due.is("its term", t.coefficient(1, 0, 1, 0), 1);
        Due.is("the text stays", t.count(15), 2);
        Due.is("the ends are back", t.count(10), 2);
        Due.path(t, 1, 1, 1024, 16, 0, 10, 64, 64, -1000, 0, 0, 0, 0);
        Due.is("undo of trackAll", t.undo(), 2);
        Due.path(t, 0, 0, 320, 4, 0, 10, 128, 128, x);
        Due.path(t, 1, 0, 0, 0, 0, 10, 64, 64, -1000);
        t.track(0, 2);
        Due.is("the row of good tries came back", t.path(0, 5), 128);
        t.undo();
        Due.is("undo of track", t.undo(), 1);
        Due.path(t, 0, 0, 0, 0, 0, 10, 64, 128);
        Due.is("undo of again", t.undo(), 0);
        Due.path(t, 1, 0, 0, 0, 0, 10, 64, 128);
        rowComesBack();
    }

    private static void rowComesBack() {
        PathTracker t = new PathTracker();
        t.track(0, 2);
        t.track(0, 1);
        Due.is("three in a row", t.path(0, 5), 128);
        t.undo();
        t.save(0);
        t.track(0, 1);
        Due.is("three in a row, behind undo", t.path(0, 5), 128);
        t.restore(0);
        t.track(0, 1);
        Due.is("three in a row, behind restore", t.path(0, 5), 128);
    }

    private static void historyDropsTheOldest() {
        PathTracker t = new PathTracker();
        for (int k = 1; k <= 11; k++) {
            t.set(5, 100 + k);
            Due.is("states", t.count(16), Math.min(k, 4));
        }
        for (int k = 1; k <= 4; k++) {
            Due.is("undo", t.undo(), 4 - k);
            Due.is("NEAR", t.count(5), 111 - k);
        }
        Due.is("no more", t.undo(), Due.IMPOSSIBLE);
        Due.is("NEAR", t.count(5), 107);
        t.set(5, 1);
        Due.is("a new one", t.count(16), 1);
        Due.is("undo", t.undo(), 0);
        Due.is("NEAR", t.count(5), 107);
    }

    private static void whatIsNoChange() {
        PathTracker t = new PathTracker();
        Due.type(t, "x+");
        t.fault();
        t.wipe();
        t.equation(0);
        t.set(0, 0);
        t.set(9, 1);
        t.trackAll(0);
        t.track(1, 1);
        t.again(1);
        t.restore(0);
        t.save(0);
        t.save(1);
        t.next();
        t.endAt(0);
        t.meets(0);
        t.path(0, 11);
        t.coefficient(0, 1, 0, 0);
        t.undo();
        Due.is("no change", t.count(16), 0);
        t.trackAll(1);
        t.set(5, 10);
        t.again(0);
        t.restore(1);
        Due.is("four changes", t.count(16), 4);
    }

    private static void save() {
        PathTracker t = Due.of("x^2-1", "y^3-1");
        Due.is("save(0)", t.save(0), 6);
        Due.is("it is no change", t.count(16), 2);
        t.trackAll(200);
        Due.is("save(1)", t.save(1), 6);
        Due.type(t, "x");
        t.equation(0);
        t.trackAll(3);
        Due.is("restore(0)", t.restore(0), 6);
        Due.is("on their way", t.count(9), 6);
        Due.is("restore(1)", t.restore(1), 6);
        Due.is("at their ends", t.count(10), 6);
        t.undo();
        t.undo();
        Due.is("three paths", t.count(8), 3);
        Due.is("in place of what was saved", t.save(1), 3);
        t.set(0, 1);
        Due.is("restore(1)", t.restore(1), 3);
        Due.path(t, 2, 0, 192, 3);
    }

    private static void saveRefused() {
        PathTracker t = new PathTracker();
        for (int odd : Due.ODD) {
            Due.is("save(odd)", t.save(odd), Due.INVALID);
        }
        Due.is("save(2)", t.save(2), Due.INVALID);
        Due.is("nothing was saved", t.restore(0), Due.IMPOSSIBLE);
        Due.is("nothing was saved", t.restore(1), Due.IMPOSSIBLE);
    }

    private static void restore() {
        PathTracker t = new PathTracker();
        t.set(4, 50);
        t.track(0, 5);
        t.save(1);
        Due.type(t, "xy-1");
        t.equation(1);
        Due.type(t, "abc");
        t.set(4, 60);
        Due.is("restore(1)", t.restore(1), 1);
        Due.is("BOUND", t.count(4), 50);
        Due.is("the text stays", t.count(15), 3);
        Due.is("the history goes on", t.count(16), 4);
        Due.path(t, 0, 0, 448, 5, 0, 10, 128, 128);
        t.track(0, 200);
        Due.is("the slot keeps it", t.restore(1), 1);
        Due.path(t, 0, 0, 448, 5, 0, 10, 128, 128);
        Due.is("undo of restore", t.undo(), 3);
        Due.path(t, 0, 1, 1024, 10);
        t.undo();
        Due.is("undo of the first restore", t.undo(), 1);
        Due.is("BOUND", t.count(4), 60);
        Due.is("paths", t.count(8), 2);
        Due.is("undo does not reach the slots", t.restore(1), 1);
    }

    private static void restoreRefused() {
        PathTracker t = new PathTracker();
        t.save(0);
        for (int odd : Due.ODD) {
            Due.is("restore(odd)", t.restore(odd), Due.INVALID);
        }
        Due.is("restore(2)", t.restore(2), Due.INVALID);
        Due.is("restore(1)", t.restore(1), Due.IMPOSSIBLE);
        Due.is("no change", t.count(16), 0);
        Due.is("restore(0)", t.restore(0), 1);
        Due.is("a change", t.count(16), 1);
    }
}
