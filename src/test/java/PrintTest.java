/** Promise 2. */
public final class PrintTest {
    private static void wide(double value, String want) {
        FloatWriter writer = new FloatWriter();
        int length = writer.print(Check.wide(value), false);
        Check.printed("print wide " + want, writer, length, want);
    }

    private static void narrow(float value, String want) {
        FloatWriter writer = new FloatWriter();
        int length = writer.print(Check.narrow(value), true);
        Check.printed("print narrow " + want, writer, length, want);
    }

    private static void written() {
        wide(0.0, "0.0");
        wide(-0.0, "-0.0");
        wide(1.0, "1.0");
        wide(-1.5, "-1.5");
        wide(100.0, "100.0");
        wide(0.1, "0.1");
        wide(1.0 / 3, "0.3333333333333333");
        wide(1e7, "1.0E7");
        wide(9999999.0, "9999999.0");
        wide(Math.nextDown(1e7), "9999999.999999998");
        wide(1e-3, "0.001");
        wide(Math.nextDown(1e-3), "9.999999999999998E-4");
        wide(1234567.0, "1234567.0");
        wide(12345678.0, "1.2345678E7");
        wide(1e23, "1.0E23");
        wide(2e23, "2.0E23");
        wide(Double.MIN_VALUE, "4.9E-324");
        wide(2 * Double.MIN_VALUE, "9.9E-324");
        wide(4 * Double.MIN_VALUE, "2.0E-323");
        wide(Double.MIN_NORMAL, "2.2250738585072014E-308");
        wide(-Double.MAX_VALUE, "-1.7976931348623157E308");
        wide(0x1p50 + 0.25, "1.1258999068426242E15");
        wide(0x1p50 + 0.75, "1.1258999068426248E15");
        narrow(0f, "0.0");
        narrow(-0f, "-0.0");
        narrow(0.1f, "0.1");
        narrow(1e7f, "1.0E7");
        narrow(Math.nextDown(1e7f), "9999999.0");
        narrow(1e-3f, "0.001");
        narrow(Math.nextDown(1e-3f), "9.999999E-4");
        narrow(Float.MIN_VALUE, "1.4E-45");
        narrow(-Float.MAX_VALUE, "-3.4028235E38");
        narrow(1e10f, "1.0E10");
        narrow(2097152.25f, "2097152.2");
        narrow(2097152.75f, "2097152.8");
    }

    private static void notFinite() {
        String[] want = {"Infinity", "-Infinity", "NaN", "NaN", "NaN", "NaN"};
        for (boolean narrow : new boolean[] {false, true}) {
            long[] bits = Numbers.notFinite(narrow);
            for (int i = 0; i < bits.length; i++) {
                FloatWriter writer = new FloatWriter();
                int length = writer.print(bits[i], narrow);
                Check.printed("print " + Check.told(bits[i], narrow), writer, length, want[i]);
            }
        }
    }

    private static void many(boolean narrow) {
        FloatWriter writer = new FloatWriter();
        int used = 0;
        for (long bits : Numbers.finite(narrow, 20000)) {
            // A text is read by some calls too.
            used += 8;
            if (used > 512) {
                writer = new FloatWriter();
                used = 8;
            }
            int length = writer.print(bits, narrow);
            String call = "print " + Check.told(bits, narrow);
            Check.printed(call, writer, length, Due.print(bits, narrow));
        }
    }

    private static void refused() {
        FloatWriter writer = new FloatWriter();
        writer.print(Check.wide(-2.5), false);
        for (long bits : new long[] {1L << 32, -1L, Long.MIN_VALUE, 0x1_7F80_0000L}) {
            Check.refused("print narrow " + bits, () -> writer.print(bits, true));
        }
        Check.equal("the paper after a refused print", Check.text(writer), "-2.5");
    }

    public static void main(String[] args) {
        written();
        notFinite();
        many(false);
        many(true);
        refused();
        Check.end();
    }
}
