/** Promise 3. */
public final class HexadecimalTest {
    private static void one(FloatWriter writer, long bits, boolean narrow, String want) {
        int length = writer.hexadecimal(bits, narrow);
        Check.printed("hexadecimal " + Check.told(bits, narrow), writer, length, want);
    }

    private static String fromLibrary(long bits, boolean narrow) {
        return narrow
                ? Float.toHexString(Float.intBitsToFloat((int) bits))
                : Double.toHexString(Double.longBitsToDouble(bits));
    }

    private static void written() {
        FloatWriter writer = new FloatWriter();
        one(writer, Check.wide(0.0), false, "0x0.0p0");
        one(writer, Check.wide(-0.0), false, "-0x0.0p0");
        one(writer, Check.wide(1.0), false, "0x1.0p0");
        one(writer, Check.wide(-0.1), false, "-0x1.999999999999ap-4");
        one(writer, Check.wide(Double.MIN_VALUE), false, "0x0.0000000000001p-1022");
        one(writer, Check.wide(Double.MIN_NORMAL), false, "0x1.0p-1022");
        one(writer, Check.wide(Double.MAX_VALUE), false, "0x1.fffffffffffffp1023");
        one(writer, Check.narrow(0f), true, "0x0.0p0");
        one(writer, Check.narrow(-0f), true, "-0x0.0p0");
        one(writer, Check.narrow(0.1f), true, "0x1.99999ap-4");
        one(writer, Check.narrow(Float.MIN_VALUE), true, "0x0.000002p-126");
        one(writer, Check.narrow(Float.MIN_NORMAL), true, "0x1.0p-126");
        one(writer, Check.narrow(-Float.MAX_VALUE), true, "-0x1.fffffep127");
        one(writer, 0x7F800000L, false, "0x0.000007f8p-1022");
    }

    private static void many(boolean narrow) {
        FloatWriter writer = new FloatWriter();
        int used = 0;
        for (long bits : Numbers.finite(narrow, 20000)) {
            used += 8;
            if (used > 512) {
                writer = new FloatWriter();
                used = 8;
            }
            one(writer, bits, narrow, fromLibrary(bits, narrow));
        }
        for (long bits : Numbers.notFinite(narrow)) {
            one(new FloatWriter(), bits, narrow, fromLibrary(bits, narrow));
        }
    }

    private static void refused() {
        FloatWriter writer = new FloatWriter();
        writer.hexadecimal(Check.wide(-2.5), false);
        for (long bits : new long[] {1L << 32, -1L, Long.MIN_VALUE}) {
            Check.refused("hexadecimal narrow " + bits, () -> writer.hexadecimal(bits, true));
        }
        Check.equal("the paper after a refused call", Check.text(writer), "-0x1.4p1");
    }

    public static void main(String[] args) {
        written();
        many(false);
        many(true);
        refused();
        Check.end();
    }
}
