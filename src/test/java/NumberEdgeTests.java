import java.io.IOException;

// The boundaries that the document names under "Numbers". The path of DOC.md is
// the argument. Whole units of numbers are told as "units" in the comments.
public final class NumberEdgeTests {
    // One try with a step of 1 that cannot be good: behind it a path stands at its
    // begin with the precision 18, where values are held to 4096.
    private static final int[] SHARP = {0, 1, 1, 1, 2, 1, 3, 1};

    public static void main(String[] args) throws IOException {
        Due.document(args);
        thousandths();
        productIsRounded();
        tryIsRounded();
        roundedInTries();
        sumIsHeld();
        heldToTheUnit();
        sumOfManyIsHeld();
        differenceIsHeld();
        gaussianIsHeld();
        productIsHeld();
        quotients();
        quotientIsHeld();
        quotientThatIsNotThere();
        precisions();
        size();
        Due.end("NumberEdgeTests");
    }

    private static PathTracker sharp(String first) {
        PathTracker t = Due.with(first, "y", SHARP);
        Due.is("a try that fails", t.track(0, 1), 1);
        Due.path(t, 0, 0, 0, 0, 1, 18, 1, 1, 1000, 0, 1000, 0);
        return t;
    }

    private static PathTracker tracked(String first, String second, int path, int tries, int... settings) {
        PathTracker t = Due.with(first, second, settings);
        Due.is("track", t.track(path, tries), tries);
        return t;
    }

    // s is 886.8 units, and 886 units are 865.2 thousandths.
    private static void thousandths() {
        Due.says("All quotients are rounded toward 0.");
        PathTracker t = Due.of("x^3-1", "y-1");
        Due.point(t, 1, -500, 865, 1000, 0);
        Due.point(t, 2, -500, -865, 1000, 0);
    }

    private static void productIsRounded() {
        Due.says("All quotients are rounded toward 0.");
        // (-512, 886) to the power of 2 is (-510.6, -886): (-510, -886) units. Times
        // (500, -868) this is (-1024048, -320); with the power of 3, (1021, 1), -1023027.
        PathTracker re = Due.of("x^3+500x^2-868ix^2", "y-1");
        Due.is("re", re.path(1, 11), 999049);
        // (-512, -886) to the power of 3 is (1021.6, -1.7): (1021, -1) units. Times 999,
        // less 996 * 1024, this is (75, -999).
        PathTracker im = Due.of("999x^3-996", "y-1");
        Due.is("im below 0", im.path(2, 11), 975);
        Due.is("im above 0", im.path(1, 11), 975);
    }

    // The first try of x for x, by hand, in units. Predictor: (-192, -128) by
    // (5120, 12288) is (-14.8, 9.8): (-14, 9). Corrector: the value (6.9, -0.4) is
    // (6, 0), times the slope -(17.3, 11.3): -(17, 11), by (4864, 11040): (-1, 0).
    private static void tryIsRounded() {
        Due.says("All quotients are rounded toward 0.");
        PathTracker t = tracked("x", "y", 0, 1);
        Due.path(t, 0, 0, 64, 1, 0, 10, 64, 128, 985, 8, 985, 8, 985);
        PathTracker other = tracked("-x", "y", 0, 1);
        Due.path(other, 0, 0, 64, 1, 0, 10, 64, 128, 1014, -9, 985, 8, 1014);
    }

    // In each of these a quotient is below 0: of products, of solutions, of the
    // predictor's right sides, of the values of the system.
    private static void roundedInTries() {
        Due.says("All quotients are rounded toward 0.");
        Due.path(tracked("y", "y", 0, 2), 0, 0, 128, 2, 0, 10, 64, 128, 968, 20, 968, 20, 968);
        Due.path(tracked("iy", "y", 0, 1), 0, 0, 64, 1, 0, 10, 64, 128, 991, -14, 985, 8, 985);
        Due.path(tracked("y", "iy", 0, 2), 0, 0, 128, 2, 0, 10, 64, 128, 968, 22, 978, -31, 978);
        Due.path(tracked("2y", "x", 0, 2), 0, 0, 128, 2, 0, 10, 64, 128, 936, 41, 968, 18, 1937);
        Due.path(tracked("y", "-y", 0, 1), 0, 0, 64, 1, 0, 10, 64, 128, 985, 9, 1014, -9, 1014);
    }

    // 999 five times is 4995, held to 4096; 999 less is 3097. Not held it is 3996.
    private static void sumIsHeld() {
        Due.says("To hold a number means to make each part -1073741824 if it is less, and 1073741824 if it is greater.");
        String[] above = {
            "999+999y+999y^2+999y^3+999x-999xy", "-999-999y-999y^2-999y^3-999x+999xy",
            "999i+999iy+999iy^2+999iy^3+999ix-999ixy", "-999i-999iy-999iy^2-999iy^3-999ix+999ixy"
        };
        for (String text : above) {
            Due.is("held: " + text, sharp(text).path(0, 11), 3097000);
        }
        String[] held = {
            "999+999y+999y^2+999y^3+999x", "-999-999y-999y^2-999y^3-999x",
            "999i+999iy+999iy^2+999iy^3+999ix", "-999i-999iy-999iy^2-999iy^3-999ix"
        };
        for (String text : held) {
            Due.is("held: " + text, sharp(text).path(0, 11), 4096000);
        }
    }

    private static void heldToTheUnit() {
        Due.says("To hold a number means to make each part -1073741824 if it is less, and 1073741824 if it is greater.");
        Due.is("4097 - 1", sharp("999+999y+999y^2+999y^3+101x-xy").path(0, 11), 4095000);
        Due.is("4096 - 1", sharp("999+999y+999y^2+999y^3+100x-xy").path(0, 11), 4095000);
        Due.is("4095 - 1", sharp("999+999y+999y^2+999y^3+99x-xy").path(0, 11), 4094000);
        Due.is("4095", sharp("999+999y+999y^2+999y^3+99x").path(0, 11), 4095000);
        Due.is("-4097 + 1", sharp("-999-999y-999y^2-999y^3-101x+xy").path(0, 11), 4095000);
        Due.is("-4096 + 1", sharp("-999-999y-999y^2-999y^3-100x+xy").path(0, 11), 4095000);
        Due.is("-4095 + 1", sharp("-999-999y-999y^2-999y^3-99x+xy").path(0, 11), 4094000);
        Due.is("4097 i", sharp("999i+999iy+999iy^2+999iy^3+101ix").path(0, 11), 4096000);
        // At the precision 10 numbers are held to 1048576. Of a value that is held, less
        // something, the last units can be seen.
        PathTracker t = tracked("100y^2", "-806iy+x^2", 0, 1, 0, 200);
        Due.path(t, 0, 2, 128, 1, 0, 10, 128, 128, 2408202, -471287, -189, -38976, 1048423300);
        PathTracker other = tracked("99x^2-999y^3", "999yx", 0, 1, 0, 200);
        Due.path(other, 0, 0, 128, 1, 0, 10, 128, 128, 9653, -5768, -13408, 9605, 1048576000);
    }

    private static void sumOfManyIsHeld() {
        Due.says("With the parts re and im: ```text sums, differences and the negative are by parts, held;");
        Due.is("the im part alone", sharp("999i+999iy+999iy^2+999iy^3+999ix-999ixy+5").path(0, 11), 3097000);
        // Held behind each term, in the order of the terms.
        Due.is("4096 - 999 + 999", sharp("999+999y+999y^2+999y^3+999x-999xy+999x^2").path(0, 11), 4096000);
        Due.is("4096 - 999 - 999", sharp("999+999y+999y^2+999y^3+999x-999xy-999x^2").path(0, 11), 2098000);
        Due.is("the text's order is not the terms'", sharp("999x-999xy+999y^2+999y^3+999+999y").path(0, 11), 3097000);
    }

    private static void differenceIsHeld() {
        Due.says("sums, differences and the negative are by parts, held");
        PathTracker t = tracked("999y^3", "x+500x^2y-999i", 2, 1);
        Due.path(t, 2, 0, 64, 1, 0, 10, 64, 128, -3785, 3196, 1179, -9531, 825236437);
        PathTracker two = tracked("948xyy-y", "900yx", 0, 2);
        Due.path(two, 0, 0, 64, 1, 1, 10, 32, 128, -3552, 3035, -5490, 4326, 192863681);
    }

    private static void gaussianIsHeld() {
        Due.says("the number times a Gaussian integer (cr, ci) has the parts cr * re - ci * im and cr * im + ci * re, held");
        PathTracker t = tracked("323y^2y", "2x^2+999y+1", 0, 1, 3, 2);
        Due.path(t, 0, 2, 64, 1, 0, 10, 64, 128, -792142, -280250, -1038, 3477, 1047539952);
        Due.says("with the coefficient i times as great (not held to 999)");
        PathTracker x = tracked("782x^3", "x", 0, 5);
        Due.path(x, 0, 0, 4, 1, 4, 10, 4, 128, 823, 74, 1000, 0, 425365);
        Due.says("its slope by y likewise with j");
        PathTracker y = tracked("999yy-999", "y", 0, 1);
        Due.path(y, 0, 0, 64, 1, 0, 10, 64, 128, 1157, -260, 985, 9, 29267);
    }

    private static void productIsHeld() {
        Due.says("the product of a and b has the parts (a.re * b.re - a.im * b.im) / U and (a.re * b.im + a.im * b.re) / U, held");
        PathTracker t = tracked("999y^2x", "999xy", 0, 1);
        Due.path(t, 0, 0, 64, 1, 0, 10, 64, 128, -3802, 3201, -6204, 4802, 275713268);
        PathTracker one = tracked("-999x^2y", "-40xy", 1, 1);
        Due.path(one, 1, 0, 0, 0, 1, 10, 32, 128, 1000, 0, -1000, 0, 999000);
        PathTracker other = tracked("829xyy+y", "-694xy", 0, 1);
        Due.path(other, 0, 0, 64, 1, 0, 10, 64, 128, -2990, 2660, 6003, -3335, 154243286);
    }

    // With GAMMA 3 + 2 i x - 14 moves x by 13 / 4 / (3 + 2 i), to (1.75, -0.5), and the
    // corrector to (5.75 + 1.5 i) / (2.5 + 1.5 i), which is (1.9559, -0.5735).
    private static void quotients() {
        Due.says("the quotient of a by b has, with n = (b.re * b.re + b.im * b.im) / U, the parts"
            + " (a.re * b.re + a.im * b.im) / n and (a.im * b.re - a.re * b.im) / n, held;");
        PathTracker t = tracked("x-14", "y-1", 0, 1, 0, 256, 1, 256);
        Due.path(t, 0, 0, 256, 1, 0, 10, 256, 256, 1955, -573, 1000, 0);
        PathTracker down = tracked("x-14", "y-1", 0, 1, 0, 256, 1, 256, 7, -2);
        Due.path(down, 0, 0, 256, 1, 0, 10, 256, 256, 1955, 573, 1000, 0);
        PathTracker y = tracked("x-1", "y+12", 0, 1, 0, 256, 1, 256);
        Due.path(y, 0, 0, 256, 1, 0, 10, 256, 256, 1000, 0, 44, 573);
    }

    private static void quotientIsHeld() {
        Due.says("(a.re * b.re + a.im * b.im) / n and (a.im * b.re - a.re * b.im) / n, held");
        PathTracker t = Due.with("ixy", "x-1", 2, 5);
        Due.is("track", t.track(0, 50), 29);
        Due.path(t, 0, 3, 1008, 14, 15, 18, 1, 128, 2, -1, 15509, -9645, 997);
        PathTracker parts = tracked("y", "1-865x", 0, 1);
        Due.path(parts, 0, 0, 64, 1, 0, 10, 64, 128, 833, 211, 13943, -4541, 719551);
    }

    // With this GAMMA the slopes at T are 2 T - 1024 units for x, and for 32 y
    // 33 T - 1024. At 513 their product is 31.1: 31 * 31 / 1024 is 0. For 33 y it
    // is 32.1: 32 * 32 / 1024 is 1. At 512 the slope of x is 0.
    private static void quotientThatIsNotThere() {
        Due.says("there is none if n is 0.");
        PathTracker none = Due.with("x", "32y", 6, -1, 7, 0, 0, 171, 1, 171, 4, 500);
        none.track(0, 3);
        Due.path(none, 0, 0, 342, 2, 1, 10, 85, 171, 2003, 0, -65, 0);
        PathTracker least = Due.with("x", "33y", 6, -1, 7, 0, 0, 171, 1, 171, 4, 500);
        least.track(0, 3);
        Due.path(least, 0, 0, 513, 3, 0, 10, 171, 171, -255515, 0, -12, 0);
        Due.says("there is no solution if a quotient is not there.");
        PathTracker zero = Due.with("x", "y", 6, -1, 7, 0, 0, 256, 1, 256);
        zero.track(0, 2);
        Due.path(zero, 0, 0, 256, 1, 1, 10, 128, 256, 1500, 0, 1500, 0);
        zero.track(0, 2);
        Due.path(zero, 0, 0, 384, 2, 2, 10, 64, 256, 2500, 0, 2500, 0);
    }

    private static void precisions() {
        Due.says("A number is complex: it has two parts, which are whole numbers of 2 to the power of minus P"
            + " (P is the precision, 10 or 18; U is 2 to the power of P).");
        PathTracker t = Due.with("999x^3+999", "y-1", SHARP);
        // (-512, 886) to the power of 3 is (1021, 1) units of the precision 10; times
        // 256 first it is (261605, 310) units of the precision 18, 1021.9 of the others.
        Due.path(t, 1, 0, 0, 0, 0, 10, 1, 1, -500, 865, 1000, 0, 1995073);
        t.track(1, 1);
        Due.path(t, 1, 0, 0, 0, 1, 18, 1, 1, -500, 865, 1000, 0, 1995945);
    }

    private static void size() {
        Due.says("The size of a number is the greater one of its parts without their signs.");
        Due.is("(3, 2)", Due.of("x+2i+2", "y-1").path(0, 11), 3000);
        Due.is("(-3, 2)", Due.of("-x+2i-2", "y-1").path(0, 11), 3000);
        Due.is("(2, 3)", Due.of("x+3i+1", "y-1").path(0, 11), 3000);
        Due.is("(2, -3)", Due.of("x-3i+1", "y-1").path(0, 11), 3000);
        Due.is("(-2, -3)", Due.of("x-3i-3", "y-1").path(0, 11), 3000);
        Due.is("(3, -3)", Due.of("x-3i+2", "y-1").path(0, 11), 3000);
    }
}
