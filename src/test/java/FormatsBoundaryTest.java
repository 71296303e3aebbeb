/** Promises 11 and 12; how a value rounds stands in NumbersBoundaryTest. */
public final class FormatsBoundaryTest {
    private static void narrowedZeros() {
        Check.sentence("Promise 11: The narrow bits of the number to which a wide one's value rounds"
                + " (0 and minus zero stay)");
        Fresh.narrowed(0L, 0L);
        Fresh.narrowed(Long.MIN_VALUE, 0x80000000L);
    }

    private static void narrowedAcrossExponentZero() {
        Check.sentence("Promise 11: The narrow bits of the number (where the narrow exponent comes to 0)");
        Fresh.narrowed(Check.wide(0x1p-126), 0x00800000L);
        Fresh.narrowed(Check.wide(0x1p-127), 0x00400000L);
        Fresh.narrowed(Check.wide(0x1.fffffep-127), 0x00800000L);
        Fresh.narrowed(Check.wide(0x1.fffffcp-127), 0x007FFFFFL);
        Fresh.narrowed(Check.wide(0x1p-148), 2L);
        Fresh.narrowed(Check.wide(0x1p-149), 1L);
        Fresh.narrowed(Check.wide(0x1p-151), 0L);
        Fresh.narrowed(Check.wide(0x1.8p-151), 0L);
        Fresh.narrowed(Check.wide(0x1.fffffffffffffp-151), 0L);
        Fresh.narrowed(Check.wide(0x1p-200), 0L);
        Fresh.narrowed(Check.wide(Double.MIN_NORMAL), 0L);
    }

    private static void narrowedInfinite() {
        Check.sentence("Promise 11: infinite ones stay");
        Fresh.narrowed(0x7FF0000000000000L, 0x7F800000L);
        Fresh.narrowed(0xFFF0000000000000L, 0xFF800000L);
    }

    private static void narrowedNoNumber() {
        Check.sentence("Promise 11: no number becomes 0x7FC00000.");
        for (long bits : new long[] {
            0x7FF0000000000001L, 0x7FF8000000000000L, 0x7FFFFFFFFFFFFFFFL,
            0xFFF0000000000001L, 0xFFF8000000000000L, -1L
        }) {
            Fresh.narrowed(bits, 0x7FC00000L);
        }
    }

    private static void widenedValues() {
        Check.sentence("Promise 12: The wide bits of a narrow number's value");
        Fresh.widened(0x3F800000L, 0x3FF0000000000000L);
        Fresh.widened(0xBF800001L, 0xBFF0000020000000L);
        Fresh.widened(0x7F7FFFFFL, 0x47EFFFFFE0000000L);
        Fresh.widened(0xFF7FFFFFL, 0xC7EFFFFFE0000000L);
        Fresh.widened(0x00800000L, 0x3810000000000000L);
    }

    private static void widenedExponentZero() {
        Check.sentence("Promise 12: The wide bits of a narrow number's value (if E is 0)");
        Fresh.widened(0L, 0L);
        Fresh.widened(0x80000000L, Long.MIN_VALUE);
        Fresh.widened(1L, 0x36A0000000000000L);
        Fresh.widened(2L, 0x36B0000000000000L);
        Fresh.widened(3L, 0x36B8000000000000L);
        Fresh.widened(0x80000001L, 0xB6A0000000000000L);
        Fresh.widened(0x00400000L, 0x3800000000000000L);
        Fresh.widened(0x007FFFFFL, 0x380FFFFFC0000000L);
        for (int bit = 0; bit < 23; bit++) {
            Fresh.widened(1L << bit, (874L + bit) << 52);
        }
    }

    private static void widenedInfinite() {
        Check.sentence("Promise 12: The wide bits of a narrow number's value (infinite ones)");
        Fresh.widened(0x7F800000L, 0x7FF0000000000000L);
        Fresh.widened(0xFF800000L, 0xFFF0000000000000L);
    }

    private static void widenedNoNumber() {
        Check.sentence("Promise 12: no number becomes 0x7FF8000000000000.");
        for (long bits : new long[] {0x7F800001L, 0x7FC00000L, 0x7FFFFFFFL, 0xFF800001L, 0xFFFFFFFFL}) {
            Fresh.widened(bits, 0x7FF8000000000000L);
        }
    }

    private static void widenedRefuses() {
        Check.sentence("Promise 12: IllegalArgumentException: as above.");
        for (int bit = 32; bit < 64; bit++) {
            long bits = 1L << bit;
            Check.refused("widened " + Long.toHexString(bits), () -> new FloatWriter().widened(bits));
        }
        Check.refused("widened of no number", () -> new FloatWriter().widened(0x17FC00000L));
    }

    public static void main(String[] args) {
        narrowedZeros();
        narrowedAcrossExponentZero();
        narrowedInfinite();
        narrowedNoNumber();
        widenedValues();
        widenedExponentZero();
        widenedInfinite();
        widenedNoNumber();
        widenedRefuses();
        Check.end();
    }
}
