import java.math.BigInteger;
import java.util.ArrayList;
import java.util.Arrays;
import java.util.List;
import java.util.regex.Matcher;
import java.util.regex.Pattern;

// The document once more, written as slowly and as plainly as it can be read:
// numbers without bounds, new objects for every value, texts by patterns.
// ModelRuns compares its answers with those of PathTracker.
final class PathTrackerModel {
    private static final int INVALID = -2000000001;
    private static final int IMPOSSIBLE = -2000000002;
    private static final int LIMIT = -2000000003;
    private static final int NONE = -2000000004;

    private static final BigInteger HOLD = BigInteger.valueOf(1073741824L);
    private static final int[][] RANGES = {
        {1, 256, 64}, {1, 256, 128}, {1, 6, 3}, {1, 64, 4}, {2, 500, 100}, {0, 1000, 10}, {-16, 16, 3}, {-16, 16, 2}
    };
    private static final String FACTOR = "[xy](?:\\^[1-3])?";
    private static final String TERM = "(?:[0-9]{1,3}i?|i|" + FACTOR + ")(?:" + FACTOR + ")*";
    private static final Pattern TEXT = Pattern.compile("-?" + TERM + "(?:[+-]" + TERM + ")*");
    private static final Pattern ONE_TERM = Pattern.compile("([+-]?)([0-9]{1,3})?(i)?((?:" + FACTOR + ")*)");
    private static final Pattern ONE_FACTOR = Pattern.compile("([xy])(?:\\^([1-3]))?");

    record Number(BigInteger re, BigInteger im) {
        static Number of(long re, long im) {
            return held(BigInteger.valueOf(re), BigInteger.valueOf(im));
        }

        static Number held(BigInteger re, BigInteger im) {
            return new Number(re.max(HOLD.negate()).min(HOLD), im.max(HOLD.negate()).min(HOLD));
        }

        Number plus(Number b) {
            return held(re.add(b.re), im.add(b.im));
        }

        Number minus(Number b) {
            return held(re.subtract(b.re), im.subtract(b.im));
        }

        Number negative() {
            return held(re.negate(), im.negate());
        }

        Number gaussian(long cr, long ci) {
            BigInteger a = BigInteger.valueOf(cr);
            BigInteger b = BigInteger.valueOf(ci);
            return held(a.multiply(re).subtract(b.multiply(im)), a.multiply(im).add(b.multiply(re)));
        }

        Number times(Number b, BigInteger unit) {
            return held(re.multiply(b.re).subtract(im.multiply(b.im)).divide(unit),
                re.multiply(b.im).add(im.multiply(b.re)).divide(unit));
        }

        Number by(Number b, BigInteger unit) {
            BigInteger n = b.re.multiply(b.re).add(b.im.multiply(b.im)).divide(unit);
            if (n.signum() == 0) {
                return null;
            }
            return held(re.multiply(b.re).add(im.multiply(b.im)).divide(n),
                im.multiply(b.re).subtract(re.multiply(b.im)).divide(n));
        }

        Number share(long h) {
            BigInteger whole = BigInteger.valueOf(1024);
            return held(re.multiply(BigInteger.valueOf(h)).divide(whole), im.multiply(BigInteger.valueOf(h)).divide(whole));
        }

        BigInteger size() {
            return re.abs().max(im.abs());
        }
    }

    static final class Line {
        int state;
        int place;
        int good;
        int failed;
        int precision;
        int step;
        int greatest;
        int row;
        Number x;
        Number y;

        BigInteger unit() {
            return BigInteger.TWO.pow(precision);
        }

        Line copy() {
            Line c = new Line();
            c.state = state;
            c.place = place;
            c.good = good;
            c.failed = failed;
            c.precision = precision;
            c.step = step;
            c.greatest = greatest;
            c.row = row;
            c.x = x;
            c.y = y;
            return c;
        }

        int told(int part) {
            BigInteger p = part == 0 ? x.re : part == 1 ? x.im : part == 2 ? y.re : y.im;
            return p.multiply(BigInteger.valueOf(1000)).divide(unit()).intValueExact();
        }
    }

    static final class All {
        int[][][][] equations = new int[2][4][4][2];
        int[] settings = new int[8];
        List<Line> lines = new ArrayList<>();

        All copy() {
            All c = new All();
            for (int e = 0; e < 2; e++) {
                for (int i = 0; i < 4; i++) {
                    for (int j = 0; j < 4; j++) {
                        c.equations[e][i][j] = equations[e][i][j].clone();
                    }
                }
            }
            c.settings = settings.clone();
            for (Line line : lines) {
                c.lines.add(line.copy());
            }
            return c;
        }
    }

    private String text = "";
    private All all = new All();
    private final List<All> history = new ArrayList<>();
    private final All[] slots = new All[2];

    PathTrackerModel() {
        all.equations[0][1][0][0] = 1;
        all.equations[1][0][1][0] = 1;
        for (int k = 0; k < 8; k++) {
            all.settings[k] = RANGES[k][2];
        }
        beginAll();
    }

    // ---- texts

    private static boolean stands(String text) {
        if (!TEXT.matcher(text).matches()) {
            return false;
        }
        for (String term : text.split("[+-]")) {
            if (degreeOfTerm(term) > 3) {
                return false;
            }
        }
        return true;
    }

    private static int degreeOfTerm(String term) {
        int degree = 0;
        Matcher m = ONE_FACTOR.matcher(term);
        while (m.find()) {
            degree += m.group(2) == null ? 1 : Integer.parseInt(m.group(2));
        }
        return degree;
    }

    private static int faultOf(String text) {
        if (stands(text)) {
            return -1;
        }
        for (int k = 0; k < text.length(); k++) {
            String begin = text.substring(0, k + 1);
            if (!stands(begin) && !stands(begin + "1")) {
                return k;
            }
        }
        return text.length();
    }

    private static int[][][] equationOf(String text) {
        int[][][] equation = new int[4][4][2];
        Matcher m = ONE_TERM.matcher(text);
        while (m.find() && !m.group().isEmpty()) {
            int number = m.group(2) == null ? 1 : Integer.parseInt(m.group(2));
            int signed = "-".equals(m.group(1)) ? -number : number;
            int i = 0;
            int j = 0;
            Matcher f = ONE_FACTOR.matcher(m.group(4));
            while (f.find()) {
                int exponent = f.group(2) == null ? 1 : Integer.parseInt(f.group(2));
                if (f.group(1).equals("x")) {
                    i += exponent;
                } else {
                    j += exponent;
                }
            }
            int part = m.group(3) == null ? 0 : 1;
            int sum = equation[i][j][part] + signed;
            equation[i][j][part] = Math.max(-999, Math.min(999, sum));
        }
        return equation;
    }

    private static int degreeOf(int[][][] equation) {
        int degree = 0;
        for (int i = 0; i <= 3; i++) {
            for (int j = 0; j <= 3 - i; j++) {
                if (equation[i][j][0] != 0 || equation[i][j][1] != 0) {
                    degree = Math.max(degree, i + j);
                }
            }
        }
        return degree;
    }

    // ---- paths

    private int degree(int equation) {
        return degreeOf(all.equations[equation]);
    }

    private static Number root(int degree, int number) {
        if (number == 0) {
            return Number.of(1024, 0);
        }
        if (degree == 2) {
            return Number.of(-1024, 0);
        }
        long s = 866025404L * 1024 / 1000000000L;
        return Number.of(-512, number == 1 ? s : -s);
    }

    private Line begun(int number, int greatest) {
        Line line = new Line();
        line.precision = 10;
        line.greatest = greatest;
        line.step = Math.min(all.settings[0], greatest);
        line.x = root(degree(0), number / degree(1));
        line.y = root(degree(1), number % degree(1));
        return line;
    }

    private void beginAll() {
        all.lines.clear();
        for (int k = 0; k < degree(0) * degree(1); k++) {
            all.lines.add(begun(k, all.settings[1]));
        }
    }

    private static Number power(Number a, int exponent, BigInteger unit) {
        if (exponent == 0) {
            return new Number(unit, BigInteger.ZERO);
        }
        if (exponent == 1) {
            return a;
        }
        return exponent == 2 ? a.times(a, unit) : a.times(a, unit).times(a, unit);
    }

    private static Number product(Number x, int i, Number y, int j, BigInteger unit) {
        if (i == 0) {
            return power(y, j, unit);
        }
        return j == 0 ? power(x, i, unit) : power(x, i, unit).times(power(y, j, unit), unit);
    }

    // by: 0 value, 1 slope by x, 2 slope by y
    private static Number value(int[][][] equation, Number x, Number y, BigInteger unit, int by) {
        Number sum = Number.of(0, 0);
        for (int i = by == 1 ? 1 : 0; i <= 3; i++) {
            for (int j = by == 2 ? 1 : 0; j <= 3 - i; j++) {
                int re = equation[i][j][0];
                int im = equation[i][j][1];
                if (re == 0 && im == 0) {
                    continue;
                }
                int factor = by == 0 ? 1 : by == 1 ? i : j;
                Number term = product(x, by == 1 ? i - 1 : i, y, by == 2 ? j - 1 : j, unit);
                sum = sum.plus(term.gaussian((long) factor * re, (long) factor * im));
            }
        }
        return sum;
    }

    private int[][][] start(int equation) {
        int[][][] start = new int[4][4][2];
        start[0][0][0] = -1;
        int d = degree(equation);
        start[equation == 0 ? d : 0][equation == 0 ? 0 : d][0] = 1;
        return start;
    }

    private Number wanted(int equation, Number x, Number y, BigInteger unit, int by) {
        return value(all.equations[equation], x, y, unit, by);
    }

    private Number begin(int equation, Number x, Number y, BigInteger unit, int by) {
        return value(start(equation), x, y, unit, by).gaussian(all.settings[6], all.settings[7]);
    }

    private Number system(int equation, Number[] point, BigInteger unit, int by, int place) {
        Number f = wanted(equation, point[0], point[1], unit, by);
        Number g = begin(equation, point[0], point[1], unit, by);
        BigInteger t = BigInteger.valueOf(place);
        BigInteger rest = BigInteger.valueOf(1024 - place);
        BigInteger whole = BigInteger.valueOf(1024);
        return Number.held(rest.multiply(g.re).add(t.multiply(f.re)).divide(whole),
            rest.multiply(g.im).add(t.multiply(f.im)).divide(whole));
    }

    private Number[] solution(Number[] point, BigInteger unit, int place, Number r, Number s) {
        Number a = system(0, point, unit, 1, place);
        Number b = system(0, point, unit, 2, place);
        Number c = system(1, point, unit, 1, place);
        Number d = system(1, point, unit, 2, place);
        Number determinant = a.times(d, unit).minus(b.times(c, unit));
        Number u = r.times(d, unit).minus(b.times(s, unit)).by(determinant, unit);
        Number v = a.times(s, unit).minus(r.times(c, unit)).by(determinant, unit);
        return u == null || v == null ? null : new Number[] {u, v};
    }

    private Number right(int equation, Number[] point, BigInteger unit, int h) {
        Number g = begin(equation, point[0], point[1], unit, 0);
        Number f = wanted(equation, point[0], point[1], unit, 0);
        return g.minus(f).share(h);
    }

    private Number[] tried(Line line, int h) {
        BigInteger unit = line.unit();
        Number[] point = {line.x, line.y};
        Number[] way = solution(point, unit, line.place, right(0, point, unit, h), right(1, point, unit, h));
        if (way == null) {
            return null;
        }
        point = new Number[] {point[0].plus(way[0]), point[1].plus(way[1])};
        BigInteger before = null;
        for (int round = 1; round <= all.settings[2]; round++) {
            int place = line.place + h;
            way = solution(point, unit, place, system(0, point, unit, 0, place).negative(),
                system(1, point, unit, 0, place).negative());
            if (way == null) {
                return null;
            }
            point = new Number[] {point[0].plus(way[0]), point[1].plus(way[1])};
            BigInteger size = way[0].size().max(way[1].size());
            if (size.compareTo(BigInteger.valueOf(all.settings[3])) <= 0) {
                return point;
            }
            if (before != null && size.compareTo(before.divide(BigInteger.TWO)) > 0) {
                return null;
            }
            before = size;
        }
        return null;
    }

    private void tryOnce(Line line) {
        int h = Math.min(line.step, 1024 - line.place);
        Number[] point = tried(line, h);
        if (point != null) {
            line.x = point[0];
            line.y = point[1];
            line.place += h;
            line.good++;
            line.row++;
            if (line.row == 3) {
                line.step = Math.min(2 * line.step, line.greatest);
                line.row = 0;
            }
            BigInteger bound = line.unit().multiply(BigInteger.valueOf(all.settings[4]));
            if (line.x.size().compareTo(bound) > 0 || line.y.size().compareTo(bound) > 0) {
                line.state = 2;
            } else if (line.place == 1024) {
                line.state = 1;
            }
            return;
        }
        line.failed++;
        line.row = 0;
        if (line.step > 1) {
            line.step /= 2;
        } else if (line.precision == 10) {
            line.precision = 18;
            line.x = line.x.gaussian(256, 0);
            line.y = line.y.gaussian(256, 0);
            line.step = Math.min(all.settings[0], line.greatest);
        } else {
            line.state = 3;
        }
    }

    private int follow(Line line, int tries) {
        int made = 0;
        while (made < tries && line.state == 0) {
            tryOnce(line);
            made++;
        }
        return made;
    }

    private boolean has(int path) {
        return path >= 0 && path < all.lines.size();
    }

    private boolean meet(int a, int b) {
        Line one = all.lines.get(a);
        Line two = all.lines.get(b);
        if (a == b || one.state != 1 || two.state != 1) {
            return false;
        }
        for (int k = 0; k < 4; k++) {
            if (Math.abs((long) one.told(k) - two.told(k)) > all.settings[5]) {
                return false;
            }
        }
        return true;
    }

    private int inState(int state) {
        return (int) all.lines.stream().filter(line -> line.state == state).count();
    }

    private void record() {
        history.add(all.copy());
        if (history.size() > 4) {
            history.remove(0);
        }
    }

    // ---- the calls

    int type(int character) {
        if (character < 33 || character > 126) {
            return INVALID;
        }
        if (text.length() == 60) {
            return LIMIT;
        }
        text += (char) character;
        return text.length();
    }

    int wipe() {
        int before = text.length();
        text = "";
        return before;
    }

    int fault() {
        int fault = faultOf(text);
        return fault < 0 ? NONE : fault;
    }

    int equation(int equation) {
        if (equation != 0 && equation != 1) {
            return INVALID;
        }
        if (faultOf(text) >= 0 || degreeOf(equationOf(text)) == 0) {
            return IMPOSSIBLE;
        }
        record();
        all.equations[equation] = equationOf(text);
        text = "";
        beginAll();
        return degree(equation);
    }

    int coefficient(int equation, int i, int j, int part) {
        boolean there = equation >= 0 && equation <= 1 && i >= 0 && i <= 3 && j >= 0 && j <= 3 - i;
        return there && (part == 0 || part == 1) ? all.equations[equation][i][j][part] : INVALID;
    }

    int track(int path, int tries) {
        if (!has(path) || tries < 1 || tries > 200) {
            return INVALID;
        }
        if (all.lines.get(path).state != 0) {
            return IMPOSSIBLE;
        }
        record();
        return follow(all.lines.get(path), tries);
    }

    int trackAll(int tries) {
        if (tries < 1 || tries > 200) {
            return INVALID;
        }
        record();
        for (Line line : all.lines) {
            follow(line, tries);
        }
        return inState(0);
    }

    int again(int path) {
        if (!has(path)) {
            return INVALID;
        }
        record();
        all.lines.set(path, begun(path, Math.max(1, all.lines.get(path).greatest / 2)));
        return all.lines.get(path).greatest;
    }

    int path(int path, int what) {
        if (!has(path) || what < 0 || what > 11) {
            return INVALID;
        }
        Line line = all.lines.get(path);
        if (what >= 7 && what <= 10) {
            return line.told(what - 7);
        }
        if (what == 11) {
            BigInteger size = wanted(0, line.x, line.y, line.unit(), 0).size()
                .max(wanted(1, line.x, line.y, line.unit(), 0).size());
            return size.multiply(BigInteger.valueOf(1000)).divide(line.unit()).intValueExact();
        }
        int[] told = {line.state, line.place, line.good, line.failed, line.precision, line.step, line.greatest};
        return told[what];
    }

    int meets(int path) {
        if (!has(path)) {
            return INVALID;
        }
        if (all.lines.get(path).state != 1) {
            return IMPOSSIBLE;
        }
        for (int k = 0; k < all.lines.size(); k++) {
            if (meet(path, k)) {
                return k;
            }
        }
        return NONE;
    }

    int next() {
        int found = NONE;
        long best = Long.MAX_VALUE;
        for (int k = 0; k < all.lines.size(); k++) {
            Line line = all.lines.get(k);
            long key = (line.place * 1000L + line.step) * 10 + k;
            if (line.state == 0 && key < best) {
                best = key;
                found = k;
            }
        }
        return found;
    }

    int endAt(int index) {
        if (index < 0) {
            return INVALID;
        }
        List<int[]> ends = new ArrayList<>();
        for (int k = 0; k < all.lines.size(); k++) {
            Line line = all.lines.get(k);
            if (line.state == 1) {
                ends.add(new int[] {line.told(0), line.told(1), line.told(2), line.told(3), k});
            }
        }
        ends.sort(Arrays::compare);
        return index < ends.size() ? ends.get(index)[4] : NONE;
    }

    int set(int what, int value) {
        if (what < 0 || what > 7 || value < RANGES[what][0] || value > RANGES[what][1]) {
            return INVALID;
        }
        if (what >= 6 && value == 0 && all.settings[13 - what] == 0) {
            return IMPOSSIBLE;
        }
        record();
        int before = all.settings[what];
        all.settings[what] = value;
        if (what != 5) {
            beginAll();
        }
        return before;
    }

    int count(int what) {
        if (what < 0 || what > 18) {
            return INVALID;
        }
        if (what < 8) {
            return all.settings[what];
        }
        if (what == 13 || what == 14) {
            return countEnds(what == 13);
        }
        int[] told = {all.lines.size(), inState(0), inState(1), inState(2), inState(3), 0, 0,
            text.length(), history.size(), degree(0), degree(1)};
        return told[what - 8];
    }

    private int countEnds(boolean apart) {
        int found = 0;
        for (int k = 0; k < all.lines.size(); k++) {
            Line line = all.lines.get(k);
            if (line.state != 1) {
                continue;
            }
            boolean fits = apart || Math.abs(line.told(1)) <= all.settings[5] && Math.abs(line.told(3)) <= all.settings[5];
            for (int lower = 0; apart && lower < k; lower++) {
                fits &= !meet(k, lower);
            }
            found += fits ? 1 : 0;
        }
        return found;
    }

    int undo() {
        if (history.isEmpty()) {
            return IMPOSSIBLE;
        }
        all = history.remove(history.size() - 1);
        return history.size();
    }

    int save(int slot) {
        if (slot != 0 && slot != 1) {
            return INVALID;
        }
        slots[slot] = all.copy();
        return all.lines.size();
    }

    int restore(int slot) {
        if (slot != 0 && slot != 1) {
            return INVALID;
        }
        if (slots[slot] == null) {
            return IMPOSSIBLE;
        }
        record();
        all = slots[slot].copy();
        return all.lines.size();
    }
}
