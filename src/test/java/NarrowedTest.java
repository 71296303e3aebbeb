/** Promise 11. */
public final class NarrowedTest {
    private static void one(FloatWriter writer, long bits, long want) {
        Check.equal("narrowed " + Check.told(bits, false), writer.narrowed(bits), want);
    }

    private static void withSign(double value, long want) {
        FloatWriter writer = new FloatWriter();
        one(writer, Check.wide(value), want);
        one(writer, Check.wide(-value), want | 0x80000000L);
    }

    private static void written() {
        withSign(0.0, 0);
        withSign(1.0, 0x3F800000L);
        withSign(0x1p-149, 1);
        withSign(0x1p-150, 0);
        withSign(Math.nextUp(0x1p-150), 1);
        withSign(0x3p-150, 2);
        withSign(Math.nextDown(0x3p-150), 1);
        withSign(Double.MIN_VALUE, 0);
        withSign(Double.MIN_NORMAL, 0);
        withSign(Math.nextDown(0x1p-126), 0x00800000L);
        withSign(1 + 0x1p-24, 0x3F800000L);
        withSign(1 + 0x3p-24, 0x3F800002L);
        withSign(Float.MAX_VALUE, 0x7F7FFFFFL);
        withSign(0x1p128 - 0x1p103, 0x7F800000L);
        withSign(Math.nextDown(0x1p128 - 0x1p103), 0x7F7FFFFFL);
        withSign(Double.MAX_VALUE, 0x7F800000L);
        withSign(Double.POSITIVE_INFINITY, 0x7F800000L);
        FloatWriter writer = new FloatWriter();
        for (long bits : Numbers.notFinite(false)) {
            if ((bits & Long.MAX_VALUE) != Numbers.WIDE_INFINITY) {
                one(writer, bits, 0x7FC00000L);
            }
        }
    }

    private static void cast(FloatWriter writer, long bits) {
        one(writer, bits, Check.narrow((float) Double.longBitsToDouble(bits)));
    }

    /** Each narrow number as a wide one, the middle to the next one, and what is beside these. */
    private static void many() {
        for (long narrow : Numbers.finite(true, 20000)) {
            FloatWriter writer = new FloatWriter();
            double value = Float.intBitsToFloat((int) narrow);
            double beyond = Float.intBitsToFloat((int) narrow + 1);
            long middle = Check.wide(Double.isInfinite(beyond) ? value : (value + beyond) / 2);
            for (long i = -1; i <= 1; i++) {
                cast(writer, middle + i);
                if (value != 0) {
                    cast(writer, Check.wide(value) + i);
                }
            }
        }
        for (long bits : Numbers.finite(false, 20000)) {
            cast(new FloatWriter(), bits);
        }
    }

    public static void main(String[] args) {
        written();
        many();
        Check.end();
    }
}
