import java.io.IOException;

// The boundaries that the document names under "Equations", and in the promises
// 1 to 6. The path of DOC.md is the argument.
public final class EquationEdgeTests {
    private static final String BEGINS = "0123456789ixy";
    private static final String[][] WHAT_CAN_STAND = {
        {"", "-" + BEGINS}, {"-", BEGINS}, {"x+", BEGINS}, {"x-", BEGINS}, {"x^3+", BEGINS}, {"-123iy^3-", BEGINS},
        {"1", "0123456789ixy+-"}, {"10", "0123456789ixy+-"}, {"999", "ixy+-"}, {"000", "ixy+-"}, {"x+123", "ixy+-"},
        {"i", "xy+-"}, {"1i", "xy+-"}, {"999i", "xy+-"}, {"-i", "xy+-"},
        {"x", "^xy+-"}, {"y", "^xy+-"}, {"1x", "^xy+-"}, {"iy", "^xy+-"}, {"xx", "^xy+-"}, {"yx", "^xy+-"},
        {"xxx", "^+-"}, {"xyx", "^+-"}, {"x^2y", "^+-"}, {"yx^1x", "^+-"},
        {"x^", "123"}, {"y^", "123"}, {"xy^", "12"}, {"x^1y^", "12"}, {"xxy^", "1"}, {"x^2y^", "1"},
        {"x^1", "xy+-"}, {"x^2", "xy+-"}, {"x^1y^1", "xy+-"}, {"x^3", "+-"}, {"xy^2", "+-"}, {"xyx^1", "+-"},
        {"x^3+y", "^xy+-"}, {"x^3+y^", "123"}, {"xxx-x^2y", "^+-"}
    };

    public static void main(String[] args) throws IOException {
        Due.document(args);
        numbersFromZero();
        newObject();
        signs();
        lengthOfText();
        wipe();
        whatCanStand();
        faultOfAnEnd();
        faultOfWhatStands();
        digitsOfNumbers();
        imaginaryUnit();
        exponents();
        degreeOfATerm();
        sumsOfCoefficients();
        sumsByParts();
        degrees();
        degreeThatIsZero();
        equationRefused();
        coefficients();
        powers();
        values();
        slopes();
        orderOfTerms();
        Due.end("EquationEdgeTests");
    }

    private static int faultOf(String text) {
        PathTracker t = new PathTracker();
        Due.type(t, text);
        return t.fault();
    }

    private static int degreeOf(String text) {
        PathTracker t = new PathTracker();
        Due.type(t, text);
        return t.equation(0);
    }

    private static void numbersFromZero() {
        Due.says("Equations (0 and 1), paths, slots, and positions in a text are numbered from 0.");
        for (int number = -1; number <= 2; number++) {
            PathTracker t = new PathTracker();
            Due.type(t, "x^2-1");
            boolean there = number == 0 || number == 1;
            Due.is("equation " + number, t.equation(number), there ? 2 : Due.INVALID);
            Due.is("path " + number, t.path(number, 3), there && t.count(8) > number ? 0 : Due.INVALID);
            Due.is("slot " + number, t.save(number), there ? t.count(8) : Due.INVALID);
        }
        Due.is("the first position", faultOf("?"), 0);
        Due.is("the second position", faultOf("x?"), 1);
    }

    private static void newObject() {
        Due.says("At first the equation 0 is x, and the equation 1 is y (they are to be 0).");
        PathTracker t = new PathTracker();
        for (int i = 0; i <= 3; i++) {
            for (int j = 0; j <= 3 - i; j++) {
                Due.coefficient(t, 0, i, j, i == 1 && j == 0 ? 1 : 0, 0);
                Due.coefficient(t, 1, i, j, i == 0 && j == 1 ? 1 : 0, 0);
            }
        }
        Due.says("Creates the equations x and y, and their path at its begin.");
        Due.is("degree", t.count(17), 1);
        Due.is("degree", t.count(18), 1);
        Due.is("one path", t.count(8), 1);
        Due.path(t, 0, 0, 0, 0, 0, 10, 64, 128, 1000, 0, 1000, 0, 1000);
        Due.is("the path 1", t.path(1, 0), Due.INVALID);
        Due.is("no text", t.count(15), 0);
        Due.is("no history", t.count(16), 0);
    }

    private static void signs() {
        Due.says("`character`: 33 to 126");
        PathTracker t = new PathTracker();
        Due.is("type(32)", t.type(32), Due.INVALID);
        Due.is("type(127)", t.type(127), Due.INVALID);
        Due.is("type(0)", t.type(0), Due.INVALID);
        for (int odd : Due.ODD) {
            Due.is("type(" + odd + ")", t.type(odd), Due.INVALID);
        }
        Due.is("nothing was appended", t.count(15), 0);
        for (int sign = 33; sign <= 126; sign++) {
            Due.is("type(" + sign + ")", t.type(sign), 1);
            t.wipe();
        }
    }

    private static void lengthOfText() {
        Due.says("Appends a character to the text.");
        PathTracker t = new PathTracker();
        Due.says("Returns the length of the text; INVALID_ARGUMENT; LIMIT_REACHED if it has 60 characters.");
        for (int k = 1; k <= 60; k++) {
            Due.is("character " + k, t.type(k % 2 == 1 ? 'x' : '+'), k);
        }
        Due.is("character 61", t.type('y'), Due.LIMIT);
        Due.is("it was not appended", t.count(15), 60);
        t.wipe();
        Due.is("there is room again", t.type('y'), 1);
        // The last of 60 characters is read, too.
        Due.says("A text has at most 60 characters.");
        PathTracker full = new PathTracker();
        Due.type(full, "1+1+1+1+1+1+1+1+1+1+1+1+1+1+1+1+1+1+1+1+1+1+1+1+1+1+1+1+-x");
        Due.is("a wrong character at the end", full.fault(), 56);
        full.wipe();
        Due.type(full, "1+1+1+1+1+1+1+1+1+1+1+1+1+1+1+1+1+1+1+1+1+1+1+1+1+1+1+1+1-3y");
        Due.is("60 characters", full.count(15), 60);
        Due.is("they stand", full.fault(), Due.NONE);
        Due.is("equation(0)", full.equation(0), 1);
        Due.coefficient(full, 0, 0, 0, 29, 0);
        Due.coefficient(full, 0, 0, 1, -3, 0);
    }

    private static void wipe() {
        Due.says("Empties the text. Returns the length that it had.");
        PathTracker t = new PathTracker();
        Due.is("an empty text", t.wipe(), 0);
        t.type('x');
        Due.is("one character", t.wipe(), 1);
        Due.is("it is empty", t.wipe(), 0);
        for (int k = 0; k < 60; k++) {
            t.type('x');
        }
        Due.is("a full text", t.wipe(), 60);
        Due.is("it is empty", t.count(15), 0);
    }

    // Each beginning with each character behind it.
    private static void whatCanStand() {
        Due.says("text = [ \"-\" ] term { ( \"+\" | \"-\" ) term } term = ( number [ \"i\" ] | \"i\" | factor ) { factor }"
            + " factor = ( \"x\" | \"y\" ) [ \"^\" digit ]");
        Due.says("Its fault is the position of the first character that cannot stand at its place when it is read from left to right,"
            + " or its length if it ends too early (also if it is empty).");
        for (String[] row : WHAT_CAN_STAND) {
            for (char c = 33; c <= 126; c++) {
                String text = row[0] + c;
                int want = row[0].length();
                if (row[1].indexOf(c) >= 0) {
                    want = "+-^".indexOf(c) >= 0 ? text.length() : Due.NONE;
                }
                Due.is("fault of " + text, faultOf(text), want);
            }
        }
        Due.is("the first one of two", faultOf("x++y+*"), 2);
        Due.is("the last one of 60", faultOf("x+x+x+x+x+x+x+x+x+x+x+x+x+x+x+x+x+x+x+x+x+x+x+x+x+x+x+x+x+xi"), 59);
    }

    private static void faultOfAnEnd() {
        Due.says("or its length if it ends too early (also if it is empty)");
        Due.is("the empty text", faultOf(""), 0);
        Due.is("the empty text, behind a wipe", wipedFault(), 0);
        for (String text : new String[] {"-", "x+", "x-", "x^", "-5i-", "xy^", "x^2+y^", "999x^3+", "xxx^", "i-"}) {
            Due.is("fault of " + text, faultOf(text), text.length());
        }
        Due.is("60 characters", faultOf("x+x+x+x+x+x+x+x+x+x+x+x+x+x+x+x+x+x+x+x+x+x+x+x+x+x+x+x+x+x+"), 60);
        Due.is("60 characters", faultOf("x+x+x+x+x+x+x+x+x+x+x+x+x+x+x+x+x+x+x+x+x+x+x+x+x+x+x+x-xyx^"), 60);
    }

    private static int wipedFault() {
        PathTracker t = new PathTracker();
        Due.type(t, "x^2");
        t.wipe();
        return t.fault();
    }

    private static void faultOfWhatStands() {
        Due.says("Tells the fault of the text. Returns its position; NOT_FOUND if it has none.");
        for (String text : new String[] {"x", "-x", "0", "i", "7", "xyx", "x^3", "3-3", "2ixy^2-5+x"}) {
            PathTracker t = new PathTracker();
            Due.type(t, text);
            Due.is("fault of " + text, t.fault(), Due.NONE);
            Due.is("fault of " + text + " again", t.fault(), Due.NONE);
            Due.is("it stays", t.count(15), text.length());
        }
        // A text without a fault need not be an equation.
        Due.is("a number", faultOf("5"), Due.NONE);
        Due.is("an equation of it", degreeOf("5"), Due.IMPOSSIBLE);
    }

    private static void digitsOfNumbers() {
        Due.says("A number has 1 to 3 digits.");
        Due.is("1", faultOf("1x"), Due.NONE);
        Due.is("2", faultOf("12x"), Due.NONE);
        Due.is("3", faultOf("123x"), Due.NONE);
        Due.is("4", faultOf("1234x"), 3);
        Due.is("4 zeros", faultOf("0000x"), 3);
        Due.is("4 in a later term", faultOf("x-1234"), 5);
        Due.is("none behind i", faultOf("i1"), 1);
        PathTracker t = new PathTracker();
        Due.type(t, "x+999y-099x^2+007xy-000y^2+80y^3");
        Due.is("equation(0)", t.equation(0), 3);
        Due.coefficient(t, 0, 1, 0, 1, 0);
        Due.coefficient(t, 0, 0, 1, 999, 0);
        Due.coefficient(t, 0, 2, 0, -99, 0);
        Due.coefficient(t, 0, 1, 1, 7, 0);
        Due.coefficient(t, 0, 0, 2, 0, 0);
        Due.coefficient(t, 0, 0, 3, 80, 0);
    }

    private static void imaginaryUnit() {
        Due.says("\"i\" is (0, 1).");
        PathTracker t = new PathTracker();
        Due.type(t, "-i+ix-2iy+999ix^2-999iy^2+0ixy");
        Due.is("equation(0)", t.equation(0), 2);
        Due.coefficient(t, 0, 0, 0, 0, -1);
        Due.coefficient(t, 0, 1, 0, 0, 1);
        Due.coefficient(t, 0, 0, 1, 0, -2);
        Due.coefficient(t, 0, 2, 0, 0, 999);
        Due.coefficient(t, 0, 0, 2, 0, -999);
        Due.coefficient(t, 0, 1, 1, 0, 0);
        Due.is("not twice", faultOf("ii"), 1);
        Due.is("not behind a factor", faultOf("xi"), 1);
    }

    private static void exponents() {
        Due.says("A digit is 1 to 3.");
        Due.is("0", faultOf("x^0"), 2);
        Due.is("1", faultOf("x^1"), Due.NONE);
        Due.is("2", faultOf("x^2"), Due.NONE);
        Due.is("3", faultOf("x^3"), Due.NONE);
        Due.is("4", faultOf("x^4"), 2);
        Due.is("9", faultOf("x^9"), 2);
        Due.is("only one", faultOf("x^11"), 3);
        Due.is("degree of x^1", degreeOf("x^1"), 1);
        Due.is("degree of y^2", degreeOf("y^2"), 2);
        Due.is("degree of y^3", degreeOf("y^3"), 3);
    }

    private static void degreeOfATerm() {
        Due.says("No factor, and no digit behind \"^\", can stand if the degree of the term would be above 3 by it"
            + " (a factor without digit is of the degree 1).");
        Due.is("1 + 1 + 1", faultOf("xyx"), Due.NONE);
        Due.is("1 + 1 + 1 + 1", faultOf("xyxy"), 3);
        Due.is("3 + 1", faultOf("x^3y"), 3);
        Due.is("2 + 1", faultOf("x^2y"), Due.NONE);
        Due.is("2 + 1 + 1", faultOf("x^2yx"), 4);
        Due.is("2 + 1, a digit", faultOf("x^2y^1"), Due.NONE);
        Due.is("2 + 2", faultOf("x^2y^2"), 5);
        Due.is("1 + 2", faultOf("yx^2"), Due.NONE);
        Due.is("1 + 3", faultOf("yx^3"), 3);
        Due.is("1 + 1 + 1, a digit", faultOf("yxy^1"), Due.NONE);
        Due.is("1 + 1 + 2", faultOf("yxy^2"), 4);
        Due.is("1 + 1 + 1 + 1, no digit", faultOf("yxy^1x"), 5);
        Due.is("a term begins with 0", faultOf("x^3-y^3+xyx"), Due.NONE);
        Due.is("also with the coefficient 0", faultOf("0x^3y"), 4);
        PathTracker t = new PathTracker();
        Due.type(t, "2xyx+3xx^2-5y^1xy+7yy");
        Due.is("equation(0)", t.equation(0), 3);
        Due.coefficient(t, 0, 2, 1, 2, 0);
        Due.coefficient(t, 0, 3, 0, 3, 0);
        Due.coefficient(t, 0, 1, 2, -5, 0);
        Due.coefficient(t, 0, 0, 2, 7, 0);
    }

    private static void sum(String text, int re, int im) {
        PathTracker t = new PathTracker();
        Due.type(t, text + "+y");
        Due.is("equation(0): " + text, t.equation(0), 1);
        Due.coefficient(t, 0, 1, 0, re, im);
    }

    private static void sumsOfCoefficients() {
        Due.says("Terms with the same powers are added from left to right, each sum of coefficients held from -999 to 999 by parts.");
        sum("998x+x", 999, 0);
        sum("999x+x", 999, 0);
        sum("999x+999x", 999, 0);
        sum("999x+x-x", 998, 0);
        sum("999x-x+x", 999, 0);
        sum("x-x+999x", 999, 0);
        sum("500x+500x-999x", 0, 0);
        sum("-998x-x", -999, 0);
        sum("-999x-x", -999, 0);
        sum("-999x-x+x", -998, 0);
        sum("-500x-500x+999x", 0, 0);
        sum("999x-999x-999x-999x+5x", -994, 0);
        PathTracker t = new PathTracker();
        Due.type(t, "999xy+2yx-3x^1y+x^2y-4yxx+5xyx");
        Due.is("the same powers in another order", t.equation(0), 3);
        Due.coefficient(t, 0, 1, 1, 996, 0);
        Due.coefficient(t, 0, 2, 1, 2, 0);
    }

    private static void sumsByParts() {
        Due.says("Terms with the same powers are added from left to right, each sum of coefficients held from -999 to 999 by parts.");
        sum("999ix+ix", 0, 999);
        sum("999ix+ix-ix", 0, 998);
        sum("-999ix-5ix+ix", 0, -998);
        sum("999x+999ix+x", 999, 999);
        sum("999x+999ix+x+ix-2x-3ix", 997, 996);
        sum("-999x+999ix-x+ix+2x-3ix", -997, 996);
        sum("5x+7ix-5x", 0, 7);
    }

    private static void degrees() {
        Due.says("Its degree is the greatest i + j of a term whose coefficient is not 0; it is 1 to 3.");
        String[] ofOne = {"x", "y", "ix", "5-iy", "x+0xy", "x+y^3-y^3", "x+0ix^3", "y+ix^2-ix^2"};
        String[] ofTwo = {"xy", "x^2", "y^2", "ixy+x", "x^2+x^2y-x^2y", "iy^2+0y^3"};
        String[] ofThree = {"x^3", "x^2y", "xy^2", "y^3", "ix^3", "-iyxy", "ix^2y+x^2", "1+x+x^2+x^3", "x^3+x", "x^2y-y^2"};
        for (String text : ofOne) {
            Due.is("degree of " + text, degreeOf(text), 1);
        }
        for (String text : ofTwo) {
            Due.is("degree of " + text, degreeOf(text), 2);
        }
        for (String text : ofThree) {
            Due.is("degree of " + text, degreeOf(text), 3);
        }
        Due.is("held first", degreeOf("x+999y^2+y^2-999y^2"), 1);
    }

    private static void degreeThatIsZero() {
        Due.says("Returns its degree; INVALID_ARGUMENT; NOT_POSSIBLE if the text has a fault, or the degree would be 0"
            + " (also if all coefficients would be 0).");
        String[] refused = {
            "5", "i", "-999i", "0", "000", "0x^3", "0i", "x-x", "ix-ix", "3-3", "x^2y-yx^2", "999x+x-999x", "7-x+x", "0x+0y",
            "", "-", "x+", "x^", "x^0", "xxxx", "1234x", "?", "+x", "x^2y^2"
        };
        for (String text : refused) {
            PathTracker t = new PathTracker();
            Due.type(t, text);
            int[] before = Due.seen(t);
            Due.is("equation(0) of " + text, t.equation(0), Due.IMPOSSIBLE);
            Due.is("equation(1) of " + text, t.equation(1), Due.IMPOSSIBLE);
            Due.same("it changes nothing: " + text, Due.seen(t), before);
        }
    }

    private static void equationRefused() {
        Due.says("If there is no equation, path or slot with a certain number, this is INVALID_ARGUMENT.");
        PathTracker t = new PathTracker();
        Due.type(t, "x^2-1");
        int[] before = Due.seen(t);
        Due.is("equation(-1)", t.equation(-1), Due.INVALID);
        Due.is("equation(2)", t.equation(2), Due.INVALID);
        for (int odd : Due.ODD) {
            Due.is("equation(" + odd + ")", t.equation(odd), Due.INVALID);
        }
        Due.same("it changes nothing", Due.seen(t), before);
        Due.says("Makes the text an equation, and empties it. This is a change. - `equation`: 0 or 1");
        Due.is("its degree", t.equation(1), 2);
        Due.is("the text", t.count(15), 0);
        Due.is("the history", t.count(16), 1);
        Due.is("the empty text is no equation", t.equation(1), Due.IMPOSSIBLE);
        Due.coefficient(t, 0, 1, 0, 1, 0);
        Due.coefficient(t, 1, 2, 0, 1, 0);
        Due.coefficient(t, 1, 0, 1, 0, 0);
    }

    private static void coefficients() {
        Due.says("An equation is a sum of terms, each a Gaussian integer (its coefficient, parts from -999 to 999) times x to the power"
            + " of i times y to the power of j, with i + j at most 3.");
        PathTracker t = new PathTracker();
        Due.type(t, "1+2y+3y^2+4y^3+5x+6xy+7xy^2+8x^2+9x^2y+10x^3");
        Due.is("equation(0)", t.equation(0), 3);
        Due.type(t, "i+2iy+3iy^2+4iy^3+5ix+6ixy+7ixy^2+8ix^2+9ix^2y+10ix^3");
        Due.is("equation(1)", t.equation(1), 3);
        int number = 0;
        for (int i = -1; i <= 4; i++) {
            for (int j = -1; j <= 4; j++) {
                boolean there = i >= 0 && j >= 0 && i + j <= 3;
                number += there ? 1 : 0;
                Due.is("re of " + i + ", " + j, t.coefficient(0, i, j, 0), there ? number : Due.INVALID);
                Due.is("im of " + i + ", " + j, t.coefficient(0, i, j, 1), there ? 0 : Due.INVALID);
                Due.is("re of " + i + ", " + j, t.coefficient(1, i, j, 0), there ? 0 : Due.INVALID);
                Due.is("im of " + i + ", " + j, t.coefficient(1, i, j, 1), there ? number : Due.INVALID);
            }
        }
        Due.says("Returns a part of a coefficient. - `equation`: 0 or 1 - `i`: the exponent of x, 0 to 3 - `j`: the exponent of y, 0 to 3 - i"
            + " - `part`: 0: re; 1: im Returns the part; INVALID_ARGUMENT.");
        Due.is("part -1", t.coefficient(0, 0, 0, -1), Due.INVALID);
        Due.is("part 2", t.coefficient(0, 0, 0, 2), Due.INVALID);
        Due.is("equation -1", t.coefficient(-1, 0, 0, 0), Due.INVALID);
        Due.is("equation 2", t.coefficient(2, 0, 0, 0), Due.INVALID);
        for (int odd : Due.ODD) {
            Due.is("equation", t.coefficient(odd, 0, 0, 0), Due.INVALID);
            Due.is("i", t.coefficient(0, odd, 0, 0), Due.INVALID);
            Due.is("j", t.coefficient(0, 0, odd, 0), Due.INVALID);
            Due.is("part", t.coefficient(0, 0, 0, odd), Due.INVALID);
            Due.is("i and j", t.coefficient(0, odd, odd, 0), Due.INVALID);
        }
    }

    // Values at the begin of the path 2, x = -1 and y = 1, but for the last ones.
    private static void powers() {
        Due.says("The value of an equation at (x, y): a power is 1 (the parts U and 0) for the exponent 0, the number for 1, the product of the number and itself for 2,"
            + " the product of this and the number for 3");
        String[] texts = {"x^2+5", "x^2-5x", "x^2-5xy", "7x^2-x", "7x^2-8+y"};
        int[] values = {6000, 6000, 6000, 8000, 0};
        for (int k = 0; k < texts.length; k++) {
            PathTracker t = Due.of(texts[k], "y^2-1");
            Due.point(t, 2, -1000, 0, 1000, 0);
            Due.is("value of " + texts[k], t.path(2, 11), values[k]);
        }
        // At the begin of the path 5, in units: x = (-512, 886), y = (-512, -886); y to the
        // power of 3 is (1021, -1), x to the power of 2 (-510, -886), this times y (-511, 884),
        // and 999 times this, with 498 and -862 i, (-537, 428).
        PathTracker t = Due.of("x^3-1", "999x^2y+498-862i+y^3");
        Due.is("(484, 427)", t.path(5, 11), 472);
        // x times y to the power of 2 is (-511, -884).
        PathTracker other = Due.of("x^3-1", "999xy^2+498+862i+y^3");
        Due.is("(484, -429)", other.path(5, 11), 472);
        Due.says("the power of x times the power of y (the other one alone if an exponent is 0; 1 if both are)");
        PathTracker both = Due.of("5+x-5y", "x-5+5y");
        Due.is("5 + 1 - 5, and 1 - 5 + 5", both.path(0, 11), 1000);
    }

    private static void value(String text, int path, int size) {
        Due.is("value of " + text, Due.of(text, "y^2-1").path(path, 11), size);
    }

    // Of equations of the degree 2 with y * y - 1, the path 2 begins at (-1, 1), and the
    // path 1 at (1, -1).
    private static void values() {
        Due.says("is taken times the coefficient, and added to the sum, which is 0 at first.");
        value("7iy+xx-1", 2, 7000);
        value("xx-1+6", 2, 6000);
        value("2+3i-4x+5iy+x^2", 2, 8000);
        value("9-4x+5iy+x^2", 2, 14000);
        value("3x+8y-x^2-ixy", 2, 4000);
        value("3x+8y-x^2-ixy", 1, 6000);
        value("3ix+8iy+x^2-ixy", 2, 6000);
        value("3ix+8iy+x^2-ixy", 1, 4000);
        value("5xy-5ixy+y^2", 2, 5000);
        value("5xy-6ixy-y^2", 2, 6000);
        value("x^2+y^2-2+0xy", 2, 0);
        // The path 3 of two equations of the degree 3 begins at ((-1/2, s), 1): s is 886
        // units, 999 times this is 885114, and y to the power of 3 less 1 is 0.
        Due.is("999 s", Due.of("x^3-1", "999x+y^3-1").path(3, 11), 864369);
    }

    private static void slope(String text, int size, int x) {
        String turned = text.replace('x', 'z').replace('y', 'x').replace('z', 'y');
        int[] plain = {6, 1, 7, 0, 0, 256, 1, 256, 2, 1, 3, size};
        PathTracker t = Due.with(text, "y-1", plain);
        t.track(0, 1);
        Due.path(t, 0, 0, 256, 1, 0, 10, 256, 256, x, 0, 1000, 0);
        PathTracker y = Due.with("x-1", turned, plain);
        y.track(0, 1);
        Due.path(y, 0, 0, 256, 1, 0, 10, 256, 256, 1000, 0, x, 0);
        plain[11] = size - 1;
        PathTracker less = Due.with(text, "y-1", plain);
        less.track(0, 1);
        Due.path(less, 0, 0, 0, 0, 1, 10, 128, 256, 1000, 0, 1000, 0);
    }

    // The predictor comes to 1.25, or 1280 units, and from there the corrector takes the
    // value of the system by its slope, by hand: 64 by 1.25, 64 by 2.5, 208 by 4.6875,
    // -16 by 2.125, 108 by 4.1406, 28 by 3.7656, 152 by 4.2188. With x and y exchanged it
    // is the slope by y.
    private static void slopes() {
        Due.says("Its slope by x is the value of the equation of the terms with the coefficient i times as great (not held to 999)"
            + " and the exponent i - 1 instead of i, for all i from 1 on, in the same order; its slope by y likewise with j.");
        slope("2x-3", 51, 1200);
        slope("x^2-3", 25, 1225);
        slope("x^3-4", 44, 1207);
        slope("xy-3", 7, 1256);
        slope("x^2y-4", 26, 1224);
        slope("xy^2-4", 7, 1243);
        slope("3x^2y-x^3-5", 36, 1214);
    }

    // Held sums, or roundings, that are others in another order.
    private static void orderOfTerms() {
        Due.says("For i from 0 to 3, and for each i for j from 0 to 3 - i, for each term whose coefficient is not 0, the power of x"
            + " times the power of y");
        PathTracker product = Due.of("y", "xxy");
        product.track(1, 1);
        Due.path(product, 1, 0, 64, 1, 0, 10, 64, 128, 999, -17, -495, 868, 881);
        PathTracker other = Due.of("8yxy", "y");
        other.track(1, 1);
        Due.path(other, 1, 0, 64, 1, 0, 10, 64, 128, -458, 887, 985, 8, 6828);
        PathTracker order = Due.of("i+507y^2x", "y-5yx-999x^3");
        order.track(1, 10);
        Due.path(order, 1, 0, 5, 2, 8, 18, 32, 128, 1976, 362, -1120, 1998, 4096000);
        PathTracker inner = Due.with("323y^2y", "2x^2+999y+1", 3, 2);
        inner.track(0, 1);
        Due.path(inner, 0, 2, 64, 1, 0, 10, 64, 128, -792142, -280250, -1038, 3477, 1047539952);
    }
}
