import java.util.ArrayList;
import java.util.List;

// Runs of calls that are made from their number, each call answered by
// PathTracker and by PathTrackerModel; every answer must be the same.
public final class ModelRuns {
    private static final String[] TEXTS = {
        "x^2+y^2-5", "xy-2", "x^3-1", "x+y", "xy-1", "xy+x-1", "x^2-2x+1", "y^2+4y+4", "x^3+y^3-3xy", "x^2y-1",
        "xy^2-2", "x-y", "2x-3y+1", "x^3-3x^2+3x-1", "y^3-x", "x^3+x-y", "999x^3-999y", "ix+2y-3i", "x^2+1", "y^2+9",
        "ixy-2x^2+i", "x^2-xy+y^2", "x+y-1", "x^2+2xy+y^2-1", "3ix^3-200y^2+7", "x^2y+xy^2-6", "900xyx-900", "x-300",
        "y-400i", "x^2-90000", "x^2y", "xyx^1+2", "007x-0y^2", "-x-y+1", "x^3-y^3", "y^3-2", "x-x+y", "0xy+x"
    };
    private static final String SIGNS = "xy^+-i0123456789xy^123+-z(X *";

    private long seed;

    private ModelRuns(long run) {
        seed = run * 0x9E3779B97F4A7C15L + 12345;
    }

    private int below(int bound) {
        seed = seed * 6364136223846793005L + 1442695040888963407L;
        return (int) ((seed >>> 33) % bound);
    }

    private int mostly(int bound) {
        int[] odd = {-1, bound, Integer.MIN_VALUE, Integer.MAX_VALUE};
        return below(12) == 0 ? odd[below(4)] : below(bound);
    }

    private String term() {
        StringBuilder term = new StringBuilder();
        if (below(2) == 0) {
            term.append(1 + below(below(3) == 0 ? 999 : 9));
        }
        if (below(4) == 0) {
            term.append('i');
        }
        int degree = 0;
        int wanted = below(4);
        while (degree < wanted) {
            int exponent = 1 + below(wanted - degree);
            term.append(below(2) == 0 ? 'x' : 'y');
            if (exponent > 1 || below(5) == 0) {
                term.append('^').append(exponent);
            }
            degree += exponent;
        }
        return term.length() == 0 ? "1" : term.toString();
    }

    private String anyText() {
        int kind = below(10);
        if (kind < 4) {
            return TEXTS[below(TEXTS.length)];
        }
        StringBuilder text = new StringBuilder(below(4) == 0 ? "-" : "");
        if (kind < 9) {
            text.append(term());
            for (int more = below(5); more > 0; more--) {
                text.append(below(2) == 0 ? '+' : '-').append(term());
            }
        }
        if (kind >= 8) {
            for (int more = 1 + below(5); more > 0; more--) {
                text.insert(below(text.length() + 1), SIGNS.charAt(below(SIGNS.length())));
            }
        }
        return text.toString();
    }

    private List<int[]> calls(int most) {
        List<int[]> calls = new ArrayList<>();
        int[] ranges = {256, 256, 6, 64, 500, 1000, 16, 16};
        while (calls.size() < most) {
            int kind = below(24);
            if (kind < 4) {
                String text = anyText();
                calls.add(new int[] {1});
                for (int k = 0; k < text.length(); k++) {
                    calls.add(new int[] {0, text.charAt(k)});
                }
                calls.add(new int[] {2});
                calls.add(new int[] {3, mostly(2)});
            } else if (kind < 5) {
                calls.add(new int[] {0, 30 + below(100)});
            } else if (kind < 6) {
                calls.add(new int[] {4, mostly(2), mostly(4), mostly(4), mostly(2)});
            } else if (kind < 9) {
                calls.add(new int[] {5, mostly(9), mostly(201)});
            } else if (kind < 13) {
                calls.add(new int[] {6, below(2) == 0 ? 200 : mostly(201)});
            } else if (kind < 14) {
                calls.add(new int[] {7, mostly(9)});
            } else if (kind < 15) {
                int what = mostly(8);
                int range = what >= 0 && what < 8 ? ranges[what] : 100;
                int value = below(3) == 0 ? mostly(range + 1) : below(3) - 1;
                calls.add(new int[] {12, what, what > 5 && below(2) == 0 ? -value : value});
                if (below(3) == 0) {
                    int[] loose = {3, 64, 2, 6, 1, 256, 0, 256, 5, 0};
                    for (int k = 0; k < loose.length; k += 2) {
                        calls.add(new int[] {12, loose[k], loose[k + 1]});
                    }
                }
            } else if (kind < 17) {
                calls.add(new int[] {9, mostly(9)});
            } else if (kind < 18) {
                calls.add(new int[] {14});
            } else if (kind < 20) {
                calls.add(new int[] {15 + below(2), mostly(2)});
            } else {
                calls.add(new int[] {11, mostly(9)});
            }
        }
        return calls;
    }

    static int answer(PathTracker t, int[] c) {
        switch (c[0]) {
            case 0: return t.type(c[1]);
            case 1: return t.wipe();
            case 2: return t.fault();
            case 3: return t.equation(c[1]);
            case 4: return t.coefficient(c[1], c[2], c[3], c[4]);
            case 5: return t.track(c[1], c[2]);
            case 6: return t.trackAll(c[1]);
            case 7: return t.again(c[1]);
            case 8: return t.path(c[1], c[2]);
            case 9: return t.meets(c[1]);
            case 10: return t.next();
            case 11: return t.endAt(c[1]);
            case 12: return t.set(c[1], c[2]);
            case 13: return t.count(c[1]);
            case 14: return t.undo();
            case 15: return t.save(c[1]);
            default: return t.restore(c[1]);
        }
    }

    static int answer(PathTrackerModel t, int[] c) {
        switch (c[0]) {
            case 0: return t.type(c[1]);
            case 1: return t.wipe();
            case 2: return t.fault();
            case 3: return t.equation(c[1]);
            case 4: return t.coefficient(c[1], c[2], c[3], c[4]);
            case 5: return t.track(c[1], c[2]);
            case 6: return t.trackAll(c[1]);
            case 7: return t.again(c[1]);
            case 8: return t.path(c[1], c[2]);
            case 9: return t.meets(c[1]);
            case 10: return t.next();
            case 11: return t.endAt(c[1]);
            case 12: return t.set(c[1], c[2]);
            case 13: return t.count(c[1]);
            case 14: return t.undo();
            case 15: return t.save(c[1]);
            default: return t.restore(c[1]);
        }
    }

    private static boolean same(long run, List<int[]> told, PathTracker t, PathTrackerModel m, int[] call) {
        int got = answer(t, call);
        int want = answer(m, call);
        if (got != want) {
            System.out.println("run " + run + ", behind " + told.size() + " calls: call "
                + java.util.Arrays.toString(call) + " answered " + got + ", the model " + want);
        }
        return got == want;
    }

    // Looks at all that can be seen, behind every call that is not a sign typed.
    private static boolean seenTheSame(long run, List<int[]> told, PathTracker t, PathTrackerModel m) {
        boolean same = true;
        for (int what = -1; what < 20; what++) {
            same &= same(run, told, t, m, new int[] {13, what});
        }
        for (int path = -1; path < 10; path++) {
            for (int what = -1; what < 13; what++) {
                same &= same(run, told, t, m, new int[] {8, path, what});
            }
            same &= same(run, told, t, m, new int[] {9, path});
            same &= same(run, told, t, m, new int[] {11, path});
        }
        for (int term = 0; term < 64; term++) {
            same &= same(run, told, t, m, new int[] {4, term / 32, term / 8 % 4, term / 2 % 4, term % 2});
        }
        return same & same(run, told, t, m, new int[] {10});
    }

    private static boolean runsTheSame(long run, int most) {
        PathTracker t = new PathTracker();
        PathTrackerModel m = new PathTrackerModel();
        List<int[]> told = new ArrayList<>();
        for (int[] call : new ModelRuns(run).calls(most)) {
            if (!same(run, told, t, m, call)) {
                return false;
            }
            told.add(call);
            if (call[0] != 0 && !seenTheSame(run, told, t, m)) {
                return false;
            }
        }
        return true;
    }

    public static void main(String[] args) {
        int runs = args.length > 0 ? Integer.parseInt(args[0]) : 60;
        int wrong = 0;
        for (long run = 0; run < runs; run++) {
            wrong += runsTheSame(run, 200) ? 0 : 1;
        }
        System.out.println(runs + " runs beside the model, wrong: " + wrong);
        if (wrong != 0) {
            System.exit(1);
        }
    }
}
