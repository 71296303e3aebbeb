/** Promise 4. */
public final class FixedTest {
    private static final int[] PLACES = {0, 1, 2, 3, 7, 17, 18, 19, 30, 60, 323, 324, 766, 1073, 1074, 1099, 1100};

    private static void one(FloatWriter writer, long bits, boolean narrow, int places, int way, String want) {
        int length = writer.fixed(bits, narrow, places, way);
        String call = "fixed " + Check.told(bits, narrow) + " " + places + " " + way;
        Check.printed(call, writer, length, want);
    }

    private static void ways(double value, int places, String... want) {
        for (int way = 0; way < 4; way++) {
            one(new FloatWriter(), Check.wide(value), false, places, way, want[way]);
        }
    }

    private static void written() {
        ways(0.5, 0, "0", "1", "1", "0");
        ways(1.5, 0, "1", "2", "2", "2");
        ways(2.5, 0, "2", "3", "3", "2");
        ways(-2.5, 0, "-2", "-3", "-3", "-2");
        ways(9.5, 0, "9", "10", "10", "10");
        ways(0.25, 1, "0.2", "0.3", "0.3", "0.2");
        ways(0.75, 1, "0.7", "0.8", "0.8", "0.8");
        ways(99.995, 2, "99.99", "100.00", "100.00", "100.00");
        ways(Math.nextUp(0.5), 0, "0", "1", "1", "1");
        ways(Math.nextDown(0.5), 0, "0", "1", "0", "0");
        ways(1.0, 3, "1.000", "1.000", "1.000", "1.000");
        ways(0.0, 2, "0.00", "0.00", "0.00", "0.00");
        ways(-0.0, 0, "-0", "-0", "-0", "-0");
        ways(-1e-300, 2, "-0.00", "-0.01", "-0.00", "-0.00");
        ways(Double.MIN_VALUE, 0, "0", "1", "0", "0");
        one(new FloatWriter(), Check.narrow(0.1f), true, 12, 2, "0.100000001490");
    }

    private static void many(boolean narrow) {
        FloatWriter writer = new FloatWriter();
        int used = 0;
        int turn = 0;
        for (long bits : Numbers.finite(narrow, 3000)) {
            int places = PLACES[turn % PLACES.length];
            int way = turn / PLACES.length % 4;
            turn++;
            used += 180;
            if (used > 512) {
                writer = new FloatWriter();
                used = 180;
            }
            one(writer, bits, narrow, places, way, Due.fixed(bits, narrow, places, way));
        }
    }

    /** Eighths lie on many ties. */
    private static void eighths() {
        for (int i = 0; i < 800; i++) {
            long bits = Check.wide(i / 8.0);
            FloatWriter writer = new FloatWriter();
            for (int way = 0; way < 4; way++) {
                for (int places = 0; places < 5; places++) {
                    one(writer, bits, false, places, way, Due.fixed(bits, false, places, way));
                }
            }
        }
    }

    private static void refused() {
        FloatWriter writer = new FloatWriter();
        long one = Check.wide(1.0);
        long nan = Check.wide(Double.NaN);
        writer.fixed(one, false, 1, 0);
        for (int places : new int[] {-1, 1101, Integer.MIN_VALUE, Integer.MAX_VALUE}) {
            Check.refused("fixed, places " + places, () -> writer.fixed(one, false, places, 0));
            Check.refused("fixed, places first " + places, () -> writer.fixed(nan, false, places, 0));
        }
        for (int way : new int[] {-1, 4, Integer.MIN_VALUE, Integer.MAX_VALUE}) {
            Check.refused("fixed, way " + way, () -> writer.fixed(one, false, 0, way));
            Check.refused("fixed, way first " + way, () -> writer.fixed(nan, false, 0, way));
        }
        Check.refused("fixed, high bits", () -> writer.fixed(1L << 32, true, 0, 0));
        Check.refused("fixed, high bits first", () -> writer.fixed(0x1_7F80_0000L, true, 0, 0));
        for (boolean narrow : new boolean[] {false, true}) {
            for (long bits : Numbers.notFinite(narrow)) {
                String call = "fixed " + Check.told(bits, narrow);
                Check.notFinite(call, () -> writer.fixed(bits, narrow, 0, 0));
            }
        }
        Check.equal("the paper after calls that threw", Check.text(writer), "1.0");
    }

    public static void main(String[] args) {
        written();
        many(false);
        many(true);
        eighths();
        refused();
        Check.end();
    }
}
