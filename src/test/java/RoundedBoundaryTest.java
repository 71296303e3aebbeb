/** Terms, ROUNDED: each way below, on and above a multiple and a middle, in both texts. */
public final class RoundedBoundaryTest {
    /** Its 1074 places end in 5, so at 1073 places it lies in the middle. */
    private static final long LEAST = 1L;
    /** No number has more figures: 767. */
    private static final long MOST_FIGURES = 0x001FFFFFFFFFFFFFL;

    private static void towardsZero() {
        Check.sentence("0 towards 0");
        Fresh.fixed(Check.wide(2.5), false, 0, 0, "2");
        Fresh.fixed(Check.wide(Math.nextDown(3.0)), false, 0, 0, "2");
        Fresh.fixed(Check.wide(Math.nextDown(1.0)), false, 0, 0, "0");
        Fresh.fixed(Check.wide(-2.5), false, 0, 0, "-2");
        Fresh.fixed(Check.wide(-Math.nextDown(3.0)), false, 0, 0, "-2");
        Fresh.fixed(Check.narrow(Math.nextDown(3f)), true, 0, 0, "2");
        Fresh.scientific(Check.wide(Math.nextDown(10.0)), false, 1, 0, "9e+00");
        Fresh.scientific(Check.wide(-2.75), false, 2, 0, "-2.7e+00");
        Fresh.scientific(Check.narrow(Math.nextDown(10f)), true, 1, 0, "9e+00");
    }

    private static void awayFromZero() {
        Check.sentence("1 away from 0");
        Fresh.fixed(Check.wide(2.5), false, 0, 1, "3");
        Fresh.fixed(Check.wide(Math.nextUp(2.0)), false, 0, 1, "3");
        Fresh.fixed(LEAST, false, 0, 1, "1");
        Fresh.fixed(LEAST, false, 2, 1, "0.01");
        Fresh.fixed(LEAST | Long.MIN_VALUE, false, 0, 1, "-1");
        Fresh.fixed(Check.wide(-Math.nextUp(2.0)), false, 0, 1, "-3");
        Fresh.fixed(1L, true, 0, 1, "1");
        Fresh.scientific(Check.wide(Math.nextUp(2.0)), false, 1, 1, "3e+00");
        Fresh.scientific(Check.wide(-Math.nextUp(2.0)), false, 2, 1, "-2.1e+00");
        Fresh.scientific(Check.narrow(Math.nextUp(2f)), true, 1, 1, "3e+00");
    }

    private static void multiplesStay() {
        Check.sentence("a value to a multiple of a power of 10 (one that is such a multiple stays)");
        Fresh.fixedAlways(3.0, 0, "3");
        Fresh.fixedAlways(2.5, 1, "2.5");
        Fresh.fixedAlways(-0.125, 3, "-0.125");
        Fresh.fixedAlways(0.0, 0, "0");
        Fresh.fixedAlways(1e22, 0, "10000000000000000000000");
        Fresh.scientificAlways(3.0, 1, "3e+00");
        Fresh.scientificAlways(1e22, 1, "1e+22");
        Fresh.scientificAlways(-0.125, 3, "-1.25e-01");
        for (int way = 0; way < 4; way++) {
            Fresh.fixed(LEAST, false, 1074, way, Due.fixed(LEAST, false, 1074, way));
            Fresh.scientific(MOST_FIGURES, false, 767, way, Due.scientific(MOST_FIGURES, false, 767, 0));
        }
    }

    private static void nearestOne() {
        Check.sentence("2 to the nearest one, .. 3 to the nearest one");
        Fresh.fixedWays(Math.nextDown(2.5), 0, "2", "3", "2", "2");
        Fresh.fixedWays(Math.nextUp(2.5), 0, "2", "3", "3", "3");
        Fresh.fixedWays(Math.nextDown(3.5), 0, "3", "4", "3", "3");
        Fresh.fixedWays(Math.nextUp(3.5), 0, "3", "4", "4", "4");
        Fresh.fixedWays(Math.nextDown(0.5), 0, "0", "1", "0", "0");
        Fresh.fixedWays(Math.nextUp(0.5), 0, "0", "1", "1", "1");
        Fresh.fixedWays(-Math.nextUp(0.5), 0, "-0", "-1", "-1", "-1");
        Fresh.fixedWays(Math.nextDown(0.125), 2, "0.12", "0.13", "0.12", "0.12");
        Fresh.fixedWays(Math.nextUp(0.125), 2, "0.12", "0.13", "0.13", "0.13");
        Fresh.fixedNarrowWays(Math.nextDown(2.5f), 0, "2", "3", "2", "2");
        Fresh.fixedNarrowWays(Math.nextUp(2.5f), 0, "2", "3", "3", "3");
        Fresh.scientificWays(Math.nextDown(2.5), 1, "2e+00", "3e+00", "2e+00", "2e+00");
        Fresh.scientificWays(Math.nextUp(2.5), 1, "2e+00", "3e+00", "3e+00", "3e+00");
        Fresh.scientificWays(Math.nextDown(9.5), 1, "9e+00", "1e+01", "9e+00", "9e+00");
        Fresh.scientificNarrowWays(Math.nextUp(2.5f), 1, "2e+00", "3e+00", "3e+00", "3e+00");
        Fresh.fixedWays(2.4, 0, "2", "3", "2", "2");
        Fresh.fixedWays(2.6, 0, "2", "3", "3", "3");
    }

    private static void ofTwo() {
        Check.sentence("of two such to the one away from 0, .. of two such to the one whose last figure is even.");
        Fresh.fixedWays(0.5, 0, "0", "1", "1", "0");
        Fresh.fixedWays(1.5, 0, "1", "2", "2", "2");
        Fresh.fixedWays(2.5, 0, "2", "3", "3", "2");
        Fresh.fixedWays(-0.5, 0, "-0", "-1", "-1", "-0");
        Fresh.fixedWays(-1.5, 0, "-1", "-2", "-2", "-2");
        Fresh.fixedWays(8.5, 0, "8", "9", "9", "8");
        Fresh.fixedWays(9.5, 0, "9", "10", "10", "10");
        Fresh.fixedWays(10.5, 0, "10", "11", "11", "10");
        Fresh.fixedWays(0.125, 2, "0.12", "0.13", "0.13", "0.12");
        Fresh.fixedWays(0.375, 2, "0.37", "0.38", "0.38", "0.38");
        Fresh.fixedWays(4503599627370495.5, 0,
                "4503599627370495", "4503599627370496", "4503599627370496", "4503599627370496");
        Fresh.fixedNarrowWays(0.5f, 0, "0", "1", "1", "0");
        Fresh.fixedNarrowWays(8388606.5f, 0, "8388606", "8388607", "8388607", "8388606");
        Fresh.scientificWays(0.5, 1, "5e-01", "5e-01", "5e-01", "5e-01");
        Fresh.scientificWays(1.5, 1, "1e+00", "2e+00", "2e+00", "2e+00");
        Fresh.scientificWays(2.5, 1, "2e+00", "3e+00", "3e+00", "2e+00");
        Fresh.scientificWays(25.0, 1, "2e+01", "3e+01", "3e+01", "2e+01");
        Fresh.scientificWays(95.0, 1, "9e+01", "1e+02", "1e+02", "1e+02");
        Fresh.scientificWays(105.0, 2, "1.0e+02", "1.1e+02", "1.1e+02", "1.0e+02");
        Fresh.scientificWays(5e21, 1, "5e+21", "5e+21", "5e+21", "5e+21");
        Fresh.scientificWays(2.5e21, 1, "2e+21", "3e+21", "3e+21", "2e+21");
        Fresh.scientificNarrowWays(2.5f, 1, "2e+00", "3e+00", "3e+00", "2e+00");
    }

    /** The middle that lies furthest behind the point, and the one with the most figures. */
    private static void lastMiddle() {
        Check.sentence("of two such .. (at the last place that a number can have)");
        String exact = Due.fixed(LEAST, false, 1074, 0);
        Check.equal("the last figure of the least size", exact.endsWith("5"), true);
        String under = exact.substring(0, exact.length() - 1);
        int last = under.charAt(under.length() - 1) - '0';
        String over = under.substring(0, under.length() - 1) + (last + 1);
        String even = last % 2 == 0 ? under : over;
        String[] want = {under, over, over, even};
        for (int way = 0; way < 4; way++) {
            Fresh.fixed(LEAST, false, 1073, way, want[way]);
            Fresh.scientific(MOST_FIGURES, false, 766, way, Due.scientific(MOST_FIGURES, false, 766, way));
            Fresh.scientific(MOST_FIGURES, false, 765, way, Due.scientific(MOST_FIGURES, false, 765, way));
        }
    }

    private static void carry() {
        Check.sentence("a value to a multiple of a power of 10 (9 and one more is 10, over all figures)");
        Fresh.fixedWays(99.5, 0, "99", "100", "100", "100");
        Fresh.fixedWays(0.96875, 1, "0.9", "1.0", "1.0", "1.0");
        Fresh.fixedWays(99999999.5, 0, "99999999", "100000000", "100000000", "100000000");
        Fresh.fixedWays(999999999.5, 0, "999999999", "1000000000", "1000000000", "1000000000");
        Fresh.fixedWays(999999999999.5, 0, "999999999999", "1000000000000", "1000000000000", "1000000000000");
        Fresh.fixedWays(Math.nextDown(1.0), 15, "0.999999999999999", "1.000000000000000",
                "1.000000000000000", "1.000000000000000");
        Fresh.fixedWays(199.5, 0, "199", "200", "200", "200");
        Fresh.scientificWays(99.5, 2, "9.9e+01", "1.0e+02", "1.0e+02", "1.0e+02");
        Fresh.scientificWays(199.5, 3, "1.99e+02", "2.00e+02", "2.00e+02", "2.00e+02");
        Fresh.scientificWays(Math.nextDown(1.0), 15, "9.99999999999999e-01", "1.00000000000000e+00",
                "1.00000000000000e+00", "1.00000000000000e+00");
        Fresh.scientificNarrowWays(99.5f, 2, "9.9e+01", "1.0e+02", "1.0e+02", "1.0e+02");
    }

    public static void main(String[] args) {
        towardsZero();
        awayFromZero();
        multiplesStay();
        nearestOne();
        ofTwo();
        lastMiddle();
        carry();
        Check.end();
    }
}
