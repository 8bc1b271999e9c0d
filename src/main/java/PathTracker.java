// Roots of two equations in x and y, found along paths from a start system.
// All rows are made once, in the constructors, and used again by every call.
public final class PathTracker {
    public static final int INVALID_ARGUMENT = -2000000001;
    public static final int NOT_POSSIBLE = -2000000002;
    public static final int LIMIT_REACHED = -2000000003;
    public static final int NOT_FOUND = -2000000004;

    private static final int SLOTS = 2;
    private static final int MOST_TRIES = 200;

    private final EquationText text;
    private final Follower follower;
    private final State present;
    private final History history;
    private final State[] slots;
    private final boolean[] slotFilled;

    public PathTracker() {
        text = new EquationText();
        follower = new Follower();
        present = new State();
        present.putFirstState();
        history = new History();
        slots = new State[SLOTS];
        for (int k = 0; k < SLOTS; k++) {
            slots[k] = new State();
        }
        slotFilled = new boolean[SLOTS];
    }

    // ---- equations

    public int type(int character) {
        if (character < 33 || character > 126) {
            return INVALID_ARGUMENT;
        }
        return text.append(character) ? text.length() : LIMIT_REACHED;
    }

    public int wipe() {
        int before = text.length();
        text.empty();
        return before;
    }

    public int fault() {
        return text.read() ? NOT_FOUND : text.readingPlace();
    }

    public int equation(int equation) {
        if (equation < 0 || equation > 1) {
            return INVALID_ARGUMENT;
        }
        if (!text.read()) {
            return NOT_POSSIBLE;
        }
        int degree = text.readEquation().degree();
        if (degree == 0) {
            return NOT_POSSIBLE;
        }
        history.record(present);
        present.putEquation(equation, text.readEquation());
        text.empty();
        return degree;
    }

    public int coefficient(int equation, int i, int j, int part) {
        if (equation < 0 || equation > 1 || part < 0 || part > 1) {
            return INVALID_ARGUMENT;
        }
        if (i < 0 || i > 3 || j < 0 || j > 3 - i) {
            return INVALID_ARGUMENT;
        }
        Equation asked = present.equationAt(equation);
        return part == 0 ? asked.realPart(i, j) : asked.imaginaryPart(i, j);
    }

    // ---- paths

    public int track(int path, int tries) {
        if (!present.hasPath(path) || tries < 1 || tries > MOST_TRIES) {
            return INVALID_ARGUMENT;
        }
        Path followed = present.pathAt(path);
        if (followed.status != Path.ON_ITS_WAY) {
            return NOT_POSSIBLE;
        }
        history.record(present);
        follower.aim(present);
        return follower.follow(followed, tries);
    }

    public int trackAll(int tries) {
        if (tries < 1 || tries > MOST_TRIES) {
            return INVALID_ARGUMENT;
        }
        history.record(present);
        follower.aim(present);
        int paths = present.pathCount();
        for (int k = 0; k < paths; k++) {
            follower.follow(present.pathAt(k), tries);
        }
        return present.pathsOfStatus(Path.ON_ITS_WAY);
    }

    public int again(int path) {
        if (!present.hasPath(path)) {
            return INVALID_ARGUMENT;
        }
        history.record(present);
        Path anew = present.pathAt(path);
        present.beginPath(path, Math.max(anew.greatestStep / 2, 1));
        return anew.greatestStep;
    }

    public int path(int path, int what) {
        if (!present.hasPath(path) || what < 0 || what > 11) {
            return INVALID_ARGUMENT;
        }
        Path asked = present.pathAt(path);
        switch (what) {
            case 0: return asked.status;
            case 1: return asked.place;
            case 2: return asked.goodTries;
            case 3: return asked.failedTries;
            case 4: return asked.precision;
            case 5: return asked.step;
            case 6: return asked.greatestStep;
            case 11:
                follower.aim(present);
                return follower.residue(asked);
            default: return asked.part(what - 7);
        }
    }

    public int meets(int path) {
        if (!present.hasPath(path)) {
            return INVALID_ARGUMENT;
        }
        if (present.pathAt(path).status != Path.AT_ITS_END) {
            return NOT_POSSIBLE;
        }
        int met = present.firstMetBelow(path, present.pathCount());
        return met < 0 ? NOT_FOUND : met;
    }

    public int next() {
        int found = present.mostBehind();
        return found < 0 ? NOT_FOUND : found;
    }

    public int endAt(int index) {
        if (index < 0) {
            return INVALID_ARGUMENT;
        }
        int found = present.endOfRank(index);
        return found < 0 ? NOT_FOUND : found;
    }

    public int set(int what, int value) {
        if (what < 0 || what >= State.SETTINGS || !State.inRange(what, value)) {
            return INVALID_ARGUMENT;
        }
        if (value == 0 && present.isOtherGammaPartZero(what)) {
            return NOT_POSSIBLE;
        }
        history.record(present);
        int before = present.setting(what);
        present.putSetting(what, value);
        return before;
    }

    public int count(int what) {
        if (what < 0 || what > 18) {
            return INVALID_ARGUMENT;
        }
        switch (what) {
            case 8: return present.pathCount();
            case 9: return present.pathsOfStatus(Path.ON_ITS_WAY);
            case 10: return present.pathsOfStatus(Path.AT_ITS_END);
            case 11: return present.pathsOfStatus(Path.GONE);
            case 12: return present.pathsOfStatus(Path.LOST);
            case 13: return present.distinctEnds();
            case 14: return present.realEnds();
            case 15: return text.length();
            case 16: return history.size();
            case 17: return present.equationAt(0).degree();
            case 18: return present.equationAt(1).degree();
            default: return present.setting(what);
        }
    }

    // ---- undo, saving

    public int undo() {
        return history.takeBack(present) ? history.size() : NOT_POSSIBLE;
    }

    public int save(int slot) {
        if (slot < 0 || slot >= SLOTS) {
            return INVALID_ARGUMENT;
        }
        slots[slot].copy(present);
        slotFilled[slot] = true;
        return present.pathCount();
    }

    public int restore(int slot) {
        if (slot < 0 || slot >= SLOTS) {
            return INVALID_ARGUMENT;
        }
        if (!slotFilled[slot]) {
            return NOT_POSSIBLE;
        }
        history.record(present);
        present.copy(slots[slot]);
        return present.pathCount();
    }

    // A number whose parts are whole numbers of 1 / unit; the unit is a
    // power of 2 that the caller hands over where products need it.
    private static final class Complex {
        private static final long LIMIT = 1073741824L;

        long re;
        long im;

        // Everything but copy() ends here, so that every number is held.
        void put(long newRe, long newIm) {
            re = newRe;
            im = newIm;
            if (re < -LIMIT) {
                re = -LIMIT;
            } else if (re > LIMIT) {
                re = LIMIT;
            }
            if (im < -LIMIT) {
                im = -LIMIT;
            } else if (im > LIMIT) {
                im = LIMIT;
            }
        }

        void copy(Complex other) {
            re = other.re;
            im = other.im;
        }

        void add(Complex other) {
            put(re + other.re, im + other.im);
        }

        void putDifference(Complex a, Complex b) {
            put(a.re - b.re, a.im - b.im);
        }

        void putNegative(Complex a) {
            put(-a.re, -a.im);
        }

        void scale(long factor) {
            put(re * factor, im * factor);
        }

        void takeShare(long share, long whole) {
            if (whole != 0) {
                put(re * share / whole, im * share / whole);
            }
        }

        void putMix(Complex a, long shareOfA, Complex b, long shareOfB) {
            long whole = shareOfA + shareOfB;
            if (whole != 0) {
                put((shareOfA * a.re + shareOfB * b.re) / whole, (shareOfA * a.im + shareOfB * b.im) / whole);
            }
        }

        void putTimesGaussian(Complex a, long cr, long ci) {
            put(cr * a.re - ci * a.im, cr * a.im + ci * a.re);
        }

        void putProduct(Complex a, Complex b, long unit) {
            if (unit != 0) {
                put((a.re * b.re - a.im * b.im) / unit, (a.re * b.im + a.im * b.re) / unit);
            }
        }

        // Answers whether there is a quotient.
        boolean divideBy(Complex b, long unit) {
            long n = unit == 0 ? 0 : (b.re * b.re + b.im * b.im) / unit;
            if (n == 0) {
                return false;
            }
            put((re * b.re + im * b.im) / n, (im * b.re - re * b.im) / n);
            return true;
        }

        long size() {
            return Math.max(Math.abs(re), Math.abs(im));
        }

        static int thousandths(long part, long unit) {
            return unit == 0 ? 0 : (int) (part * 1000 / unit);
        }
    }

    // The ten products of a power of x and a power of y, in the order of the
    // terms of an equation, so that all equations at a point can share them.
    private static final class Powers {
        private final Complex[] products;

        Powers() {
            products = new Complex[Equation.TERMS];
            for (int k = 0; k < Equation.TERMS; k++) {
                products[k] = new Complex();
            }
        }

        void fill(Complex x, Complex y, long unit) {
            products[0].put(unit, 0);
            products[1].copy(y);
            products[2].putProduct(y, y, unit);
            products[3].putProduct(products[2], y, unit);
            products[4].copy(x);
            products[5].putProduct(x, y, unit);
            products[6].putProduct(x, products[2], unit);
            products[7].putProduct(x, x, unit);
            products[8].putProduct(products[7], y, unit);
            products[9].putProduct(products[7], x, unit);
        }

        Complex at(int term) {
            return products[term >= 0 && term < products.length ? term : 0];
        }
    }

    // The value of an equation at a point, and its two slopes there.
    private static final class Tangent {
        final Complex value;
        final Complex slopeX;
        final Complex slopeY;

        Tangent() {
            value = new Complex();
            slopeX = new Complex();
            slopeY = new Complex();
        }

        void clear() {
            value.put(0, 0);
            slopeX.put(0, 0);
            slopeY.put(0, 0);
        }

        void timesGaussian(long cr, long ci) {
            value.putTimesGaussian(value, cr, ci);
            slopeX.putTimesGaussian(slopeX, cr, ci);
            slopeY.putTimesGaussian(slopeY, cr, ci);
        }

        void putMix(Tangent a, long shareOfA, Tangent b, long shareOfB) {
            value.putMix(a.value, shareOfA, b.value, shareOfB);
            slopeX.putMix(a.slopeX, shareOfA, b.slopeX, shareOfB);
            slopeY.putMix(a.slopeY, shareOfA, b.slopeY, shareOfB);
        }
    }

    // The coefficients of the ten terms, the powers of x ascending and,
    // for each of them, the powers of y.
    private static final class Equation {
        static final int TERMS = 10;
        static final int MOST_DEGREE = 3;

        private static final int[] POWER_OF_X = {0, 0, 0, 0, 1, 1, 1, 2, 2, 3};
        private static final int[] POWER_OF_Y = {0, 1, 2, 3, 0, 1, 2, 0, 1, 0};
        private static final int[] FIRST_TERM = {0, 4, 7, 9};
        private static final int MOST_COEFFICIENT = 999;

        private final int[] re;
        private final int[] im;
        private final Complex product;

        Equation() {
            re = new int[TERMS];
            im = new int[TERMS];
            product = new Complex();
        }

        private static int termOf(int i, int j) {
            boolean known = i >= 0 && i <= MOST_DEGREE && j >= 0 && j <= MOST_DEGREE - i;
            return known ? FIRST_TERM[i] + j : 0;
        }

        private static int heldCoefficient(int part) {
            return Math.max(-MOST_COEFFICIENT, Math.min(MOST_COEFFICIENT, part));
        }

        void clear() {
            for (int k = 0; k < TERMS; k++) {
                re[k] = 0;
                im[k] = 0;
            }
        }

        void copy(Equation other) {
            for (int k = 0; k < TERMS; k++) {
                re[k] = other.re[k];
                im[k] = other.im[k];
            }
        }

        void addTerm(int i, int j, int partRe, int partIm) {
            int term = termOf(i, j);
            re[term] = heldCoefficient(re[term] + partRe);
            im[term] = heldCoefficient(im[term] + partIm);
        }

        // x (or y) to the power of the degree, less 1.
        void putStart(int degree, boolean ofX) {
            clear();
            addTerm(0, 0, -1, 0);
            addTerm(ofX ? degree : 0, ofX ? 0 : degree, 1, 0);
        }

        int realPart(int i, int j) {
            return re[termOf(i, j)];
        }

        int imaginaryPart(int i, int j) {
            return im[termOf(i, j)];
        }

        // 0 tells, too, that no coefficient is left.
        int degree() {
            int degree = 0;
            for (int k = 0; k < TERMS; k++) {
                if (re[k] != 0 || im[k] != 0) {
                    degree = Math.max(degree, POWER_OF_X[k] + POWER_OF_Y[k]);
                }
            }
            return degree;
        }

        void evaluate(Powers powers, Tangent into) {
            into.clear();
            for (int k = 0; k < TERMS; k++) {
                if (re[k] == 0 && im[k] == 0) {
                    continue;
                }
                int i = POWER_OF_X[k];
                int j = POWER_OF_Y[k];
                product.putTimesGaussian(powers.at(k), re[k], im[k]);
                into.value.add(product);
                if (i > 0) {
                    product.putTimesGaussian(powers.at(termOf(i - 1, j)), i * re[k], i * im[k]);
                    into.slopeX.add(product);
                }
                if (j > 0) {
                    product.putTimesGaussian(powers.at(termOf(i, j - 1)), j * re[k], j * im[k]);
                    into.slopeY.add(product);
                }
            }
        }
    }

    // The equations on the way from the start system to the wanted ones.
    private static final class Homotopy {
        private final Powers powers;
        private final Equation[] wanted;
        private final Equation[] starts;
        private final Tangent[] ends;
        private final Tangent[] begins;
        private final Tangent[] mixes;
        private int gammaRe;
        private int gammaIm;

        Homotopy() {
            powers = new Powers();
            wanted = new Equation[2];
            starts = new Equation[2];
            ends = new Tangent[2];
            begins = new Tangent[2];
            mixes = new Tangent[2];
            for (int k = 0; k < 2; k++) {
                wanted[k] = new Equation();
                starts[k] = new Equation();
                ends[k] = new Tangent();
                begins[k] = new Tangent();
                mixes[k] = new Tangent();
            }
        }

        void aim(State state) {
            for (int k = 0; k < 2; k++) {
                wanted[k].copy(state.equationAt(k));
                starts[k].putStart(wanted[k].degree(), k == 0);
            }
            gammaRe = state.setting(State.GAMMA_RE);
            gammaIm = state.setting(State.GAMMA_IM);
        }

        void evaluate(Complex x, Complex y, int place, long unit) {
            powers.fill(x, y, unit);
            for (int k = 0; k < 2; k++) {
                wanted[k].evaluate(powers, ends[k]);
                starts[k].evaluate(powers, begins[k]);
                begins[k].timesGaussian(gammaRe, gammaIm);
                mixes[k].putMix(begins[k], Path.FINISH - place, ends[k], place);
            }
        }

        Tangent end(int equation) {
            return ends[equation == 1 ? 1 : 0];
        }

        Tangent begin(int equation) {
            return begins[equation == 1 ? 1 : 0];
        }

        Tangent mix(int equation) {
            return mixes[equation == 1 ? 1 : 0];
        }
    }

    // Two linear equations, their right sides and their solution.
    private static final class Solver {
        final Complex right0;
        final Complex right1;
        private final Complex u;
        private final Complex v;
        private final Complex determinant;
        private final Complex product;

        Solver() {
            right0 = new Complex();
            right1 = new Complex();
            u = new Complex();
            v = new Complex();
            determinant = new Complex();
            product = new Complex();
        }

        // a * d - b * c
        private void cross(Complex into, Complex a, Complex d, Complex b, Complex c, long unit) {
            into.putProduct(a, d, unit);
            product.putProduct(b, c, unit);
            into.putDifference(into, product);
        }

        // Adds the solution to the point, and answers whether there is one; the
        // slopes of the two tangents are the left sides.
        boolean moveBySolution(Tangent first, Tangent second, Complex x, Complex y, long unit) {
            cross(determinant, first.slopeX, second.slopeY, first.slopeY, second.slopeX, unit);
            cross(u, right0, second.slopeY, first.slopeY, right1, unit);
            cross(v, first.slopeX, right1, right0, second.slopeX, unit);
            if (!u.divideBy(determinant, unit) || !v.divideBy(determinant, unit)) {
                return false;
            }
            x.add(u);
            y.add(v);
            return true;
        }

        long solutionSize() {
            return Math.max(u.size(), v.size());
        }
    }

    // Makes the tries: a predictor, and then a corrector, on a point of its own,
    // so that a try that fails leaves the path where it was.
    private static final class Follower {
        private final Homotopy homotopy;
        private final Solver solver;
        private final Complex x;
        private final Complex y;
        private int firstStep;
        private int rounds;
        private int tolerance;
        private int bound;

        Follower() {
            homotopy = new Homotopy();
            solver = new Solver();
            x = new Complex();
            y = new Complex();
        }

        void aim(State state) {
            homotopy.aim(state);
            firstStep = state.setting(State.START);
            rounds = state.setting(State.ROUNDS);
            tolerance = state.setting(State.TOLERANCE);
            bound = state.setting(State.BOUND);
        }

        // Answers how many tries were made.
        int follow(Path path, int tries) {
            int made = 0;
            while (made < tries && path.status == Path.ON_ITS_WAY) {
                int h = Math.min(path.step, Path.FINISH - path.place);
                x.copy(path.x);
                y.copy(path.y);
                if (predict(path.place, h, path.unit()) && correct(path.place + h, path.unit())) {
                    path.moveOn(h, x, y, bound);
                } else {
                    path.shorten(firstStep);
                }
                made++;
            }
            return made;
        }

        private boolean predict(int place, int h, long unit) {
            homotopy.evaluate(x, y, place, unit);
            solver.right0.putDifference(homotopy.begin(0).value, homotopy.end(0).value);
            solver.right0.takeShare(h, Path.FINISH);
            solver.right1.putDifference(homotopy.begin(1).value, homotopy.end(1).value);
            solver.right1.takeShare(h, Path.FINISH);
            return solver.moveBySolution(homotopy.mix(0), homotopy.mix(1), x, y, unit);
        }

        private boolean correct(int place, long unit) {
            long before = 0;
            for (int round = 0; round < rounds; round++) {
                homotopy.evaluate(x, y, place, unit);
                solver.right0.putNegative(homotopy.mix(0).value);
                solver.right1.putNegative(homotopy.mix(1).value);
                if (!solver.moveBySolution(homotopy.mix(0), homotopy.mix(1), x, y, unit)) {
                    return false;
                }
                long size = solver.solutionSize();
                if (size <= tolerance) {
                    return true;
                }
                if (round > 0 && size > before / 2) {
                    return false;
                }
                before = size;
            }
            return false;
        }

        int residue(Path path) {
            homotopy.evaluate(path.x, path.y, path.place, path.unit());
            long size = Math.max(homotopy.end(0).value.size(), homotopy.end(1).value.size());
            return Complex.thousandths(size, path.unit());
        }
    }

    private static final class Path {
        static final int ON_ITS_WAY = 0;
        static final int AT_ITS_END = 1;
        static final int GONE = 2;
        static final int LOST = 3;
        static final int FINISH = 1024;

        private static final int LOW_PRECISION = 10;
        private static final int HIGH_PRECISION = 18;
        private static final int ROW_TO_DOUBLE = 3;

        final Complex x;
        final Complex y;
        int status;
        int place;
        int step;
        int greatestStep;
        int precision;
        int goodTries;
        int failedTries;
        private int row;

        Path() {
            x = new Complex();
            y = new Complex();
        }

        void begin(int startStep, int newGreatestStep) {
            status = ON_ITS_WAY;
            place = 0;
            greatestStep = newGreatestStep;
            step = Math.min(startStep, newGreatestStep);
            precision = LOW_PRECISION;
            goodTries = 0;
            failedTries = 0;
            row = 0;
        }

        void putOnRoots(int degreeOfX, int numberOfX, int degreeOfY, int numberOfY) {
            putRootOfOne(x, degreeOfX, numberOfX, unit());
            putRootOfOne(y, degreeOfY, numberOfY, unit());
        }

        private static void putRootOfOne(Complex into, int degree, int number, long unit) {
            if (number == 0) {
                into.put(unit, 0);
            } else if (degree == 2) {
                into.put(-unit, 0);
            } else {
                long s = 866025404L * unit / 1000000000L;
                into.put(-(unit / 2), number == 1 ? s : -s);
            }
        }

        void copy(Path other) {
            x.copy(other.x);
            y.copy(other.y);
            status = other.status;
            place = other.place;
            step = other.step;
            greatestStep = other.greatestStep;
            precision = other.precision;
            goodTries = other.goodTries;
            failedTries = other.failedTries;
            row = other.row;
        }

        long unit() {
            return precision == HIGH_PRECISION ? 1L << HIGH_PRECISION : 1L << LOW_PRECISION;
        }

        void moveOn(int h, Complex newX, Complex newY, int bound) {
            x.copy(newX);
            y.copy(newY);
            place += h;
            goodTries++;
            row++;
            if (row >= ROW_TO_DOUBLE) {
                row = 0;
                step = Math.min(step * 2, greatestStep);
            }
            if (Math.max(x.size(), y.size()) > bound * unit()) {
                status = GONE;
            } else if (place >= FINISH) {
                status = AT_ITS_END;
            }
        }

        void shorten(int startStep) {
            failedTries++;
            row = 0;
            if (step > 1) {
                step = step / 2;
            } else if (precision == LOW_PRECISION) {
                precision = HIGH_PRECISION;
                x.scale(1L << (HIGH_PRECISION - LOW_PRECISION));
                y.scale(1L << (HIGH_PRECISION - LOW_PRECISION));
                step = Math.min(startStep, greatestStep);
            } else {
                status = LOST;
            }
        }

        // 0 to 3: x.re, x.im, y.re, y.im in thousandths.
        int part(int number) {
            switch (number) {
                case 0: return Complex.thousandths(x.re, unit());
                case 1: return Complex.thousandths(x.im, unit());
                case 2: return Complex.thousandths(y.re, unit());
                default: return Complex.thousandths(y.im, unit());
            }
        }

        boolean isNear(Path other, int near) {
            for (int k = 0; k < 4; k++) {
                long apart = (long) part(k) - other.part(k);
                if (Math.abs(apart) > near) {
                    return false;
                }
            }
            return true;
        }

        boolean isReal(int near) {
            return Math.abs(part(1)) <= near && Math.abs(part(3)) <= near;
        }

        // Less than 0 if this end comes before the other one by its parts.
        int compareParts(Path other) {
            for (int k = 0; k < 4; k++) {
                int order = Integer.compare(part(k), other.part(k));
                if (order != 0) {
                    return order;
                }
            }
            return 0;
        }
    }

    // All that undo and the slots bring back.
    private static final class State {
        static final int START = 0;
        static final int MAX = 1;
        static final int ROUNDS = 2;
        static final int TOLERANCE = 3;
        static final int BOUND = 4;
        static final int NEAR = 5;
        static final int GAMMA_RE = 6;
        static final int GAMMA_IM = 7;
        static final int SETTINGS = 8;

        private static final int MOST_PATHS = 9;
        private static final int[] FIRST_VALUE = {64, 128, 3, 4, 100, 10, 3, 2};
        private static final int[] LEAST_VALUE = {1, 1, 1, 1, 2, 0, -16, -16};
        private static final int[] GREATEST_VALUE = {256, 256, 6, 64, 500, 1000, 16, 16};

        private final Equation equation0;
        private final Equation equation1;
        private final int[] settings;
        private final Path[] paths;
        private int used;

        State() {
            equation0 = new Equation();
            equation1 = new Equation();
            settings = new int[SETTINGS];
            paths = new Path[MOST_PATHS];
            for (int k = 0; k < MOST_PATHS; k++) {
                paths[k] = new Path();
            }
        }

        void putFirstState() {
            equation0.clear();
            equation0.addTerm(1, 0, 1, 0);
            equation1.clear();
            equation1.addTerm(0, 1, 1, 0);
            for (int k = 0; k < SETTINGS; k++) {
                settings[k] = FIRST_VALUE[k];
            }
            beginPaths();
        }

        void copy(State other) {
            equation0.copy(other.equation0);
            equation1.copy(other.equation1);
            for (int k = 0; k < SETTINGS; k++) {
                settings[k] = other.settings[k];
            }
            used = other.used;
            for (int k = 0; k < MOST_PATHS; k++) {
                paths[k].copy(other.paths[k]);
            }
        }

        Equation equationAt(int number) {
            return number == 1 ? equation1 : equation0;
        }

        void putEquation(int number, Equation from) {
            equationAt(number).copy(from);
            beginPaths();
        }

        static boolean inRange(int what, int value) {
            boolean known = what >= 0 && what < SETTINGS;
            return known && value >= LEAST_VALUE[what] && value <= GREATEST_VALUE[what];
        }

        int setting(int what) {
            return what >= 0 && what < SETTINGS ? settings[what] : 0;
        }

        void putSetting(int what, int value) {
            if (what >= 0 && what < SETTINGS) {
                settings[what] = value;
                if (what != NEAR) {
                    beginPaths();
                }
            }
        }

        boolean isOtherGammaPartZero(int what) {
            if (what == GAMMA_RE) {
                return settings[GAMMA_IM] == 0;
            }
            return what == GAMMA_IM && settings[GAMMA_RE] == 0;
        }

        private void beginPaths() {
            used = Math.min(equation0.degree() * equation1.degree(), MOST_PATHS);
            for (int k = 0; k < used; k++) {
                beginPath(k, settings[MAX]);
            }
        }

        void beginPath(int number, int greatestStep) {
            int degreeOfX = equation0.degree();
            int degreeOfY = equation1.degree();
            if (!hasPath(number) || degreeOfY == 0) {
                return;
            }
            paths[number].begin(settings[START], greatestStep);
            paths[number].putOnRoots(degreeOfX, number / degreeOfY, degreeOfY, number % degreeOfY);
        }

        int pathCount() {
            return used;
        }

        boolean hasPath(int number) {
            return number >= 0 && number < used && number < MOST_PATHS;
        }

        Path pathAt(int number) {
            return paths[hasPath(number) ? number : 0];
        }

        int pathsOfStatus(int status) {
            int found = 0;
            for (int k = 0; k < used; k++) {
                if (pathAt(k).status == status) {
                    found++;
                }
            }
            return found;
        }

        // Of the paths with numbers below the limit, the first other one that the
        // path meets; -1 if there is none.
        int firstMetBelow(int number, int limit) {
            for (int k = 0; k < limit && k < used; k++) {
                boolean other = k != number && pathAt(k).status == Path.AT_ITS_END;
                if (other && pathAt(k).isNear(pathAt(number), settings[NEAR])) {
                    return k;
                }
            }
            return -1;
        }

        int distinctEnds() {
            int found = 0;
            for (int k = 0; k < used; k++) {
                if (pathAt(k).status == Path.AT_ITS_END && firstMetBelow(k, k) < 0) {
                    found++;
                }
            }
            return found;
        }

        int realEnds() {
            int found = 0;
            for (int k = 0; k < used; k++) {
                if (pathAt(k).status == Path.AT_ITS_END && pathAt(k).isReal(settings[NEAR])) {
                    found++;
                }
            }
            return found;
        }

        // The path on its way with the least place, then the least step; -1 if there is none.
        int mostBehind() {
            int found = -1;
            for (int k = 0; k < used; k++) {
                Path path = pathAt(k);
                if (path.status == Path.ON_ITS_WAY && (found < 0 || isBehind(path, pathAt(found)))) {
                    found = k;
                }
            }
            return found;
        }

        private static boolean isBehind(Path one, Path other) {
            return one.place != other.place ? one.place < other.place : one.step < other.step;
        }

        // The end that has so many ends before it; -1 if there is none.
        int endOfRank(int rank) {
            for (int k = 0; k < used; k++) {
                if (pathAt(k).status == Path.AT_ITS_END && endsBefore(k) == rank) {
                    return k;
                }
            }
            return -1;
        }

        private int endsBefore(int number) {
            int before = 0;
            for (int k = 0; k < used; k++) {
                if (k != number && pathAt(k).status == Path.AT_ITS_END) {
                    int order = pathAt(k).compareParts(pathAt(number));
                    if (order < 0 || (order == 0 && k < number)) {
                        before++;
                    }
                }
            }
            return before;
        }
    }

    // The latest states, in a ring, so that the oldest one is written over.
    private static final class History {
        private static final int MOST_STATES = 4;

        private final State[] ring;
        private int first;
        private int size;

        History() {
            ring = new State[MOST_STATES];
            for (int k = 0; k < MOST_STATES; k++) {
                ring[k] = new State();
            }
        }

        int size() {
            return size;
        }

        void record(State state) {
            if (size == MOST_STATES) {
                first = Math.floorMod(first + 1, MOST_STATES);
                size--;
            }
            ring[Math.floorMod(first + size, MOST_STATES)].copy(state);
            size++;
        }

        // Answers whether there was a state to take back.
        boolean takeBack(State into) {
            if (size == 0) {
                return false;
            }
            size--;
            into.copy(ring[Math.floorMod(first + size, MOST_STATES)]);
            return true;
        }
    }

    // The typed text, and what it says as an equation.
    private static final class EquationText {
        private static final int MOST_SIGNS = 60;
        private static final int MOST_DIGITS = 3;
        private static final int NO_SIGN = 0;

        private final int[] signs;
        private final Equation equation;
        private int length;
        private int reading;

        EquationText() {
            signs = new int[MOST_SIGNS];
            equation = new Equation();
        }

        int length() {
            return length;
        }

        boolean append(int sign) {
            if (length < 0 || length >= MOST_SIGNS) {
                return false;
            }
            signs[length] = sign;
            length++;
            return true;
        }

        void empty() {
            length = 0;
        }

        // Where read() stopped: the fault, if it answered false.
        int readingPlace() {
            return reading;
        }

        Equation readEquation() {
            return equation;
        }

        // Answers whether the text has no fault.
        boolean read() {
            equation.clear();
            reading = 0;
            boolean minus = signHere() == '-';
            if (minus) {
                reading++;
            }
            for (int terms = 0; terms <= MOST_SIGNS; terms++) {
                if (!readTerm(minus)) {
                    return false;
                }
                if (reading >= length) {
                    return true;
                }
                int sign = signHere();
                if (sign != '+' && sign != '-') {
                    return false;
                }
                minus = sign == '-';
                reading++;
            }
            return false;
        }

        private boolean readTerm(boolean minus) {
            int number = 1;
            boolean imaginary = false;
            boolean begun = isDigit(signHere());
            if (begun) {
                number = readNumber();
            }
            if (signHere() == 'i') {
                imaginary = true;
                begun = true;
                reading++;
            }
            int i = 0;
            int j = 0;
            for (int factors = 0; factors <= MOST_SIGNS && isUnknown(signHere()); factors++) {
                boolean ofX = signHere() == 'x';
                int exponent = readFactor(i + j);
                if (exponent == 0) {
                    return false;
                }
                i += ofX ? exponent : 0;
                j += ofX ? 0 : exponent;
                begun = true;
            }
            if (begun) {
                int signed = minus ? -number : number;
                equation.addTerm(i, j, imaginary ? 0 : signed, imaginary ? signed : 0);
            }
            return begun;
        }

        private int readNumber() {
            int number = 0;
            for (int digits = 0; digits < MOST_DIGITS && isDigit(signHere()); digits++) {
                number = number * 10 + signHere() - '0';
                reading++;
            }
            return number;
        }

        // Answers the exponent; 0 tells that the sign at the reading place cannot
        // stand there behind factors of the degree.
        private int readFactor(int degree) {
            if (degree >= Equation.MOST_DEGREE) {
                return 0;
            }
            reading++;
            if (signHere() != '^') {
                return 1;
            }
            reading++;
            int exponent = signHere() - '0';
            if (exponent < 1 || degree + exponent > Equation.MOST_DEGREE) {
                return 0;
            }
            reading++;
            return exponent;
        }

        private int signHere() {
            boolean inside = reading >= 0 && reading < length && reading < MOST_SIGNS;
            return inside ? signs[reading] : NO_SIGN;
        }

        private static boolean isDigit(int sign) {
            return sign >= '0' && sign <= '9';
        }

        private static boolean isUnknown(int sign) {
            return sign == 'x' || sign == 'y';
        }
    }
}
