/** Promise 12. */
public final class WidenedTest {
    private static void one(FloatWriter writer, long bits, long want) {
        Check.equal("widened " + Check.told(bits, true), writer.widened(bits), want);
    }

    private static void written() {
        FloatWriter writer = new FloatWriter();
        one(writer, 0, 0);
        one(writer, 0x80000000L, Long.MIN_VALUE);
        one(writer, 1, Check.wide(0x1p-149));
        one(writer, 0x80000003L, Check.wide(-0x3p-149));
        one(writer, 0x007FFFFFL, Check.wide(0x1p-126 - 0x1p-149));
        one(writer, 0x00800000L, Check.wide(0x1p-126));
        one(writer, 0x3F800000L, Check.wide(1.0));
        one(writer, 0x7F7FFFFFL, Check.wide(0x1p128 - 0x1p104));
        one(writer, 0x7F800000L, 0x7FF0000000000000L);
        one(writer, 0xFF800000L, 0xFFF0000000000000L);
        for (long bits : new long[] {0x7F800001L, 0x7FC00000L, 0x7FFFFFFFL, 0xFF800001L, 0xFFFFFFFFL}) {
            one(writer, bits, 0x7FF8000000000000L);
        }
    }

    private static void many() {
        for (long bits : Numbers.finite(true, 20000)) {
            FloatWriter writer = new FloatWriter();
            one(writer, bits, Check.wide(Float.intBitsToFloat((int) bits)));
            Check.equal("narrowed(widened) " + bits, writer.narrowed(writer.widened(bits)), bits);
        }
    }

    private static void refused() {
        FloatWriter writer = new FloatWriter();
        for (long bits : new long[] {1L << 32, -1L, Long.MIN_VALUE, Long.MAX_VALUE}) {
            Check.refused("widened " + bits, () -> writer.widened(bits));
        }
    }

    public static void main(String[] args) {
        written();
        many();
        refused();
        Check.end();
    }
}
