/** Terms, SCIENTIFIC TEXT, and promise 5. */
public final class ScientificBoundaryTest {
    private static void sign() {
        Check.sentence("- for the sign 1");
        Fresh.scientificAlways(-0.0, 1, "-0e+00");
        Fresh.scientificAlways(-1.0, 1, "-1e+00");
        Fresh.scientificWays(-Double.MIN_VALUE, 1, "-4e-324", "-5e-324", "-5e-324", "-5e-324");
        Fresh.scientificNarrowWays(-Float.MIN_VALUE, 1, "-1e-45", "-2e-45", "-1e-45", "-1e-45");
    }

    private static void zero() {
        Check.sentence("(0 has figures 0)");
        Fresh.scientificAlways(0.0, 1, "0e+00");
        Fresh.scientificAlways(0.0, 2, "0.0e+00");
        Fresh.scientificAlways(0.0, 800, "0." + "0".repeat(799) + "e+00");
        Fresh.scientificNarrowWays(0f, 3, "0.00e+00", "0.00e+00", "0.00e+00", "0.00e+00");
        Fresh.scientificNarrowWays(-0f, 3, "-0.00e+00", "-0.00e+00", "-0.00e+00", "-0.00e+00");
    }

    private static void soManyFigures() {
        Check.sentence("the size rounded to so many figures: the first one, a point and the others");
        Fresh.scientificAlways(1.0, 2, "1.0e+00");
        Fresh.scientificAlways(1.5, 5, "1.5000e+00");
        Fresh.scientificAlways(1.0, 800, "1." + "0".repeat(799) + "e+00");
        Fresh.scientificAlways(1024.0, 4, "1.024e+03");
        Fresh.scientificAlways(1024.0, 5, "1.0240e+03");
        long most = 0x001FFFFFFFFFFFFFL;
        String all = Due.scientific(most, false, 767, 0);
        int end = all.indexOf('e');
        Fresh.scientific(most, false, 800, 3, all.substring(0, end) + "0".repeat(33) + all.substring(end));
        Fresh.scientific(1L, true, 105, 3, Due.scientific(1L, true, 105, 0));
    }

    private static void noPoint() {
        Check.sentence("(no point without others)");
        Fresh.scientificAlways(1.0, 1, "1e+00");
        Fresh.scientificAlways(0.0, 1, "0e+00");
        Fresh.scientificAlways(-4e10, 1, "-4e+10");
    }

    private static void signOfThePower() {
        Check.sentence("e, + or -");
        Fresh.scientificAlways(1.0, 1, "1e+00");
        Fresh.scientificAlways(10.0, 1, "1e+01");
        Fresh.scientificAlways(0.5, 1, "5e-01");
        Fresh.scientificWays(0.99, 1, "9e-01", "1e+00", "1e+00", "1e+00");
        Fresh.scientificWays(Math.nextDown(1.0), 2, "9.9e-01", "1.0e+00", "1.0e+00", "1.0e+00");
        Fresh.scientificNarrowWays(Math.nextDown(1f), 1, "9e-01", "1e+00", "1e+00", "1e+00");
    }

    private static void powerOfTheFirstFigure() {
        Check.sentence("and the power of 10 that the first figure stands for (of the size as rounded)");
        Fresh.scientificWays(9.75, 1, "9e+00", "1e+01", "1e+01", "1e+01");
        Fresh.scientificWays(9.75, 2, "9.7e+00", "9.8e+00", "9.8e+00", "9.8e+00");
        Fresh.scientificWays(9.96875, 2, "9.9e+00", "1.0e+01", "1.0e+01", "1.0e+01");
        Fresh.scientificWays(Double.MAX_VALUE, 1, "1e+308", "2e+308", "2e+308", "2e+308");
        Fresh.scientificWays(Double.MIN_VALUE, 1, "4e-324", "5e-324", "5e-324", "5e-324");
        Fresh.scientificNarrowWays(Float.MAX_VALUE, 1, "3e+38", "4e+38", "3e+38", "3e+38");
    }

    private static void twoFiguresAtLeast() {
        Check.sentence("with two figures at least.");
        Fresh.scientificAlways(1e9, 1, "1e+09");
        Fresh.scientificAlways(1e10, 1, "1e+10");
        Fresh.scientificWays(9.75e9, 1, "9e+09", "1e+10", "1e+10", "1e+10");
        Fresh.scientificWays(9.75e99, 1, "9e+99", "1e+100", "1e+100", "1e+100");
        Fresh.scientificWays(9.75e-10, 1, "9e-10", "1e-09", "1e-09", "1e-09");
        Fresh.scientificWays(9.75e-11, 1, "9e-11", "1e-10", "1e-10", "1e-10");
        Fresh.scientificWays(9.75e-100, 1, "9e-100", "1e-99", "1e-99", "1e-99");
        Fresh.scientificNarrowWays(9.75e9f, 1, "9e+09", "1e+10", "1e+10", "1e+10");
    }

    private static void figures() {
        Check.sentence("IllegalArgumentException: figures is not 1 .. 800");
        long one = Check.wide(1.0);
        for (int figures : new int[] {0, -1, 801, Integer.MIN_VALUE, Integer.MAX_VALUE}) {
            for (int way = 0; way < 4; way++) {
                int by = way;
                Check.refused("scientific, figures " + figures,
                        () -> new FloatWriter().scientific(one, false, figures, by));
                Check.refused("scientific of narrow, figures " + figures,
                        () -> new FloatWriter().scientific(0x3F800000L, true, figures, by));
            }
        }
        Fresh.scientific(one, false, 1, 0, "1e+00");
        Fresh.scientific(one, false, 800, 0, "1." + "0".repeat(799) + "e+00");
    }

    private static void ways() {
        Check.sentence("or way not 0 .. 3.");
        for (int way : new int[] {-1, 4, Integer.MIN_VALUE, Integer.MAX_VALUE}) {
            for (int figures : new int[] {1, 800}) {
                Check.refused("scientific, way " + way,
                        () -> new FloatWriter().scientific(Check.wide(1.0), false, figures, way));
            }
        }
        Fresh.scientific(Check.wide(1.5), false, 1, 0, "1e+00");
        Fresh.scientific(Check.wide(1.5), false, 1, 3, "2e+00");
    }

    private static void notFinite() {
        Check.sentence("ArithmeticException: it is not finite.");
        for (boolean narrow : new boolean[] {false, true}) {
            for (long bits : Numbers.notFinite(narrow)) {
                for (int figures : new int[] {1, 800}) {
                    Check.notFinite("scientific " + Check.told(bits, narrow),
                            () -> new FloatWriter().scientific(bits, narrow, figures, 3));
                }
            }
        }
    }

    public static void main(String[] args) {
        sign();
        zero();
        soManyFigures();
        noPoint();
        signOfThePower();
        powerOfTheFirstFigure();
        twoFiguresAtLeast();
        figures();
        ways();
        notFinite();
        Check.end();
    }
}
