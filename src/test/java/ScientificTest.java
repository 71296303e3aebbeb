/** Promise 5. */
public final class ScientificTest {
    private static final int[] FIGURES = {1, 2, 3, 9, 10, 16, 17, 18, 19, 27, 53, 400, 766, 767, 768, 799, 800};

    private static void one(FloatWriter writer, long bits, boolean narrow, int figures, int way, String want) {
        int length = writer.scientific(bits, narrow, figures, way);
        String call = "scientific " + Check.told(bits, narrow) + " " + figures + " " + way;
        Check.printed(call, writer, length, want);
    }

    private static void ways(double value, int figures, String... want) {
        for (int way = 0; way < 4; way++) {
            one(new FloatWriter(), Check.wide(value), false, figures, way, want[way]);
        }
    }

    private static void written() {
        ways(0.0, 1, "0e+00", "0e+00", "0e+00", "0e+00");
        ways(-0.0, 4, "-0.000e+00", "-0.000e+00", "-0.000e+00", "-0.000e+00");
        ways(1.0, 1, "1e+00", "1e+00", "1e+00", "1e+00");
        ways(2.5, 1, "2e+00", "3e+00", "3e+00", "2e+00");
        ways(3.5, 1, "3e+00", "4e+00", "4e+00", "4e+00");
        ways(9.5, 1, "9e+00", "1e+01", "1e+01", "1e+01");
        ways(-99.5, 2, "-9.9e+01", "-1.0e+02", "-1.0e+02", "-1.0e+02");
        ways(1234.5, 4, "1.234e+03", "1.235e+03", "1.235e+03", "1.234e+03");
        ways(0.00012345, 2, "1.2e-04", "1.3e-04", "1.2e-04", "1.2e-04");
        ways(1e100, 3, "1.00e+100", "1.01e+100", "1.00e+100", "1.00e+100");
        ways(Double.MIN_VALUE, 3, "4.94e-324", "4.95e-324", "4.94e-324", "4.94e-324");
        ways(-Double.MAX_VALUE, 2, "-1.7e+308", "-1.8e+308", "-1.8e+308", "-1.8e+308");
        one(new FloatWriter(), Check.narrow(0.1f), true, 12, 2, "1.00000001490e-01");
    }

    private static void many(boolean narrow) {
        FloatWriter writer = new FloatWriter();
        int used = 0;
        int turn = 0;
        for (long bits : Numbers.finite(narrow, 3000)) {
            int figures = FIGURES[turn % FIGURES.length];
            int way = turn / FIGURES.length % 4;
            turn++;
            used += 110;
            if (used > 512) {
                writer = new FloatWriter();
                used = 110;
            }
            one(writer, bits, narrow, figures, way, Due.scientific(bits, narrow, figures, way));
        }
    }

    /** Eighths lie on many ties. */
    private static void eighths() {
        for (int i = 0; i < 800; i++) {
            long bits = Check.wide(i / 8.0);
            FloatWriter writer = new FloatWriter();
            for (int way = 0; way < 4; way++) {
                for (int figures = 1; figures < 6; figures++) {
                    one(writer, bits, false, figures, way, Due.scientific(bits, false, figures, way));
                }
            }
        }
    }

    private static void refused() {
        FloatWriter writer = new FloatWriter();
        long one = Check.wide(1.0);
        long nan = Check.wide(Double.NaN);
        writer.scientific(one, false, 1, 0);
        for (int figures : new int[] {0, -1, 801, Integer.MIN_VALUE, Integer.MAX_VALUE}) {
            Check.refused("scientific, figures " + figures, () -> writer.scientific(one, false, figures, 0));
            Check.refused("scientific, figures first " + figures, () -> writer.scientific(nan, false, figures, 0));
        }
        for (int way : new int[] {-1, 4, Integer.MIN_VALUE, Integer.MAX_VALUE}) {
            Check.refused("scientific, way " + way, () -> writer.scientific(one, false, 1, way));
            Check.refused("scientific, way first " + way, () -> writer.scientific(nan, false, 1, way));
        }
        Check.refused("scientific, high bits", () -> writer.scientific(1L << 32, true, 1, 0));
        Check.refused("scientific, high bits first", () -> writer.scientific(0x1_7F80_0000L, true, 1, 0));
        for (boolean narrow : new boolean[] {false, true}) {
            for (long bits : Numbers.notFinite(narrow)) {
                String call = "scientific " + Check.told(bits, narrow);
                Check.notFinite(call, () -> writer.scientific(bits, narrow, 1, 0));
            }
        }
        Check.equal("the paper after calls that threw", Check.text(writer), "1e+00");
    }

    public static void main(String[] args) {
        written();
        many(false);
        many(true);
        eighths();
        refused();
        Check.end();
    }
}
