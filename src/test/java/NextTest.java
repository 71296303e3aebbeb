/** Promise 10. */
public final class NextTest {
    private static void one(FloatWriter writer, long bits, boolean narrow, boolean up, long want) {
        String call = "next " + Check.told(bits, narrow) + (up ? " up" : " down");
        Check.equal(call, writer.next(bits, narrow, up), want);
    }

    /** What the library says; minus zero's neighbours are those of 0 there, too. */
    private static long fromLibrary(long bits, boolean narrow, boolean up) {
        if (narrow) {
            float value = Float.intBitsToFloat((int) bits);
            return Check.narrow(up ? Math.nextUp(value) : Math.nextDown(value));
        }
        double value = Double.longBitsToDouble(bits);
        return Check.wide(up ? Math.nextUp(value) : Math.nextDown(value));
    }

    private static void edges(boolean narrow) {
        FloatWriter writer = new FloatWriter();
        long sign = Numbers.signBit(narrow);
        long infinity = Numbers.infinity(narrow);
        one(writer, 0, narrow, true, 1);
        one(writer, 0, narrow, false, sign | 1);
        one(writer, sign, narrow, true, 1);
        one(writer, sign, narrow, false, sign | 1);
        one(writer, 1, narrow, false, 0);
        one(writer, sign | 1, narrow, true, sign);
        one(writer, infinity - 1, narrow, true, infinity);
        one(writer, sign | (infinity - 1), narrow, false, sign | infinity);
        one(writer, infinity, narrow, true, infinity);
        one(writer, infinity, narrow, false, infinity - 1);
        one(writer, sign | infinity, narrow, false, sign | infinity);
        one(writer, sign | infinity, narrow, true, sign | (infinity - 1));
        for (long bits : new long[] {infinity + 1, sign - 1, sign | (infinity + 1), sign | (sign - 1)}) {
            one(writer, bits, narrow, true, bits);
            one(writer, bits, narrow, false, bits);
        }
    }

    private static void many(boolean narrow) {
        for (long bits : Numbers.finite(narrow, 20000)) {
            FloatWriter writer = new FloatWriter();
            one(writer, bits, narrow, true, fromLibrary(bits, narrow, true));
            one(writer, bits, narrow, false, fromLibrary(bits, narrow, false));
        }
    }

    private static void refused() {
        FloatWriter writer = new FloatWriter();
        for (long bits : new long[] {1L << 32, -1L, Long.MIN_VALUE}) {
            Check.refused("next narrow " + bits + " up", () -> writer.next(bits, true, true));
            Check.refused("next narrow " + bits + " down", () -> writer.next(bits, true, false));
        }
    }

    public static void main(String[] args) {
        edges(false);
        edges(true);
        many(false);
        many(true);
        refused();
        Check.end();
    }
}
