/** Terms, FIXED TEXT, and promise 4. */
public final class FixedBoundaryTest {
    private static void sign() {
        Check.sentence("- for the sign 1, then the size rounded (also if nothing but 0 is left)");
        Fresh.fixedAlways(-0.0, 0, "-0");
        Fresh.fixedAlways(-0.0, 2, "-0.00");
        Fresh.fixedWays(-0.25, 0, "-0", "-1", "-0", "-0");
        Fresh.fixedWays(-Double.MIN_VALUE, 1, "-0.0", "-0.1", "-0.0", "-0.0");
        Fresh.fixedNarrowWays(-Float.MIN_VALUE, 1, "-0.0", "-0.1", "-0.0", "-0.0");
        Fresh.fixedAlways(-1.0, 0, "-1");
    }

    private static void asManyPlaces() {
        Check.sentence("written out with as many");
        Fresh.fixedAlways(1.0, 1, "1.0");
        Fresh.fixedAlways(1.0, 3, "1.000");
        Fresh.fixedAlways(0.0, 3, "0.000");
        Fresh.fixedAlways(0.5, 30, "0.5" + "0".repeat(29));
        Fresh.fixedAlways(0.0, 1100, "0." + "0".repeat(1100));
        Fresh.fixedAlways(1.0, 1100, "1." + "0".repeat(1100));
        long least = 1L;
        String all = Due.fixed(least, false, 1074, 0);
        Fresh.fixed(least, false, 1075, 3, all + "0");
        Fresh.fixed(least, false, 1100, 3, all + "0".repeat(26));
        Fresh.fixed(least, true, 149, 3, Due.fixed(least, true, 149, 0));
        Fresh.fixed(least, true, 1100, 3, Due.fixed(least, true, 149, 0) + "0".repeat(951));
    }

    private static void noPoint() {
        Check.sentence("(no point for 0 places)");
        Fresh.fixedAlways(0.0, 0, "0");
        Fresh.fixedAlways(7.0, 0, "7");
        Fresh.fixedAlways(-1e22, 0, "-10000000000000000000000");
        Fresh.fixedWays(0.75, 0, "0", "1", "1", "1");
        Fresh.fixed(0x7FEFFFFFFFFFFFFFL, false, 0, 3, Due.fixed(0x7FEFFFFFFFFFFFFFL, false, 0, 3));
    }

    private static void oneBeforeThePoint() {
        Check.sentence("and at least one figure before it");
        Fresh.fixedAlways(0.5, 1, "0.5");
        Fresh.fixedAlways(0.0, 1, "0.0");
        Fresh.fixedAlways(0.0625, 4, "0.0625");
        Fresh.fixedAlways(1.5, 1, "1.5");
        Fresh.fixedAlways(10.5, 1, "10.5");
    }

    private static void places() {
        Check.sentence("IllegalArgumentException: places is not 0 .. 1100");
        long one = Check.wide(1.0);
        for (int places : new int[] {-1, 1101, Integer.MIN_VALUE, Integer.MAX_VALUE}) {
            for (int way = 0; way < 4; way++) {
                int by = way;
                Check.refused("fixed, places " + places, () -> new FloatWriter().fixed(one, false, places, by));
                Check.refused("fixed of narrow, places " + places,
                        () -> new FloatWriter().fixed(0x3F800000L, true, places, by));
            }
        }
        Fresh.fixed(one, false, 0, 0, "1");
        Fresh.fixed(one, false, 1100, 0, "1." + "0".repeat(1100));
    }

    private static void ways() {
        Check.sentence("or way not 0 .. 3.");
        for (int way : new int[] {-1, 4, Integer.MIN_VALUE, Integer.MAX_VALUE}) {
            for (int places : new int[] {0, 1100}) {
                Check.refused("fixed, way " + way,
                        () -> new FloatWriter().fixed(Check.wide(1.0), false, places, way));
            }
        }
        Fresh.fixed(Check.wide(1.5), false, 0, 0, "1");
        Fresh.fixed(Check.wide(1.5), false, 0, 3, "2");
    }

    private static void notFinite() {
        Check.sentence("ArithmeticException: it is not finite.");
        for (boolean narrow : new boolean[] {false, true}) {
            for (long bits : Numbers.notFinite(narrow)) {
                for (int places : new int[] {0, 1100}) {
                    Check.notFinite("fixed " + Check.told(bits, narrow),
                            () -> new FloatWriter().fixed(bits, narrow, places, 3));
                }
            }
        }
    }

    private static void longest() {
        Check.sentence("FIXED TEXT (the longest one there is)");
        for (int way = 0; way < 4; way++) {
            String figures = Due.fixed(0xFFEFFFFFFFFFFFFFL, false, 0, 0);
            Check.equal("its length before the point", figures.length(), 310);
            Fresh.fixed(0xFFEFFFFFFFFFFFFFL, false, 1100, way, figures + "." + "0".repeat(1100));
        }
    }

    public static void main(String[] args) {
        sign();
        asManyPlaces();
        noPoint();
        oneBeforeThePoint();
        places();
        ways();
        notFinite();
        longest();
        Check.end();
    }
}
