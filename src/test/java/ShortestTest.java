import java.math.BigDecimal;

/** Promises 8 and 9. */
public final class ShortestTest {
    private static void one(FloatWriter writer, long bits, boolean narrow, long digits, int power) {
        Check.equal("digits " + Check.told(bits, narrow), writer.digits(bits, narrow), digits);
        Check.equal("power " + Check.told(bits, narrow), writer.power(bits, narrow), power);
    }

    private static void wide(double value, long digits, int power) {
        one(new FloatWriter(), Check.wide(value), false, digits, power);
        one(new FloatWriter(), Check.wide(-value), false, digits, power);
    }

    private static void narrow(float value, long digits, int power) {
        one(new FloatWriter(), Check.narrow(value), true, digits, power);
        one(new FloatWriter(), Check.narrow(-value), true, digits, power);
    }

    private static void written() {
        wide(0.0, 0, 0);
        wide(1.0, 1, 0);
        wide(1200.0, 12, 2);
        wide(1e22, 1, 22);
        wide(0.3, 3, -1);
        wide(Double.MIN_VALUE, 49, -325);
        wide(4 * Double.MIN_VALUE, 2, -323);
        wide(Double.MAX_VALUE, 17976931348623157L, 292);
        wide(0x1p50 + 0.25, 11258999068426242L, -1);
        wide(0x1p50 + 0.75, 11258999068426248L, -1);
        narrow(0f, 0, 0);
        narrow(0.3f, 3, -1);
        narrow(Float.MIN_VALUE, 14, -46);
        narrow(Float.MAX_VALUE, 34028235, 31);
        narrow(16777216f, 16777216, 0);
    }

    private static void many(boolean narrow) {
        FloatWriter writer = new FloatWriter();
        int used = 0;
        for (long bits : Numbers.finite(narrow, 20000)) {
            used += 2;
            if (used > 512) {
                writer = new FloatWriter();
                used = 2;
            }
            if ((bits & (Numbers.signBit(narrow) - 1)) == 0) {
                one(writer, bits, narrow, 0, 0);
            } else {
                BigDecimal due = Due.shortest(bits, narrow);
                one(writer, bits, narrow, due.unscaledValue().longValueExact(), -due.scale());
            }
        }
    }

    private static void refused() {
        FloatWriter writer = new FloatWriter();
        for (long bits : new long[] {1L << 32, -1L, Long.MIN_VALUE, 0x1_7F80_0000L}) {
            Check.refused("digits narrow " + bits, () -> writer.digits(bits, true));
            Check.refused("power narrow " + bits, () -> writer.power(bits, true));
        }
        for (boolean narrow : new boolean[] {false, true}) {
            for (long bits : Numbers.notFinite(narrow)) {
                Check.notFinite("digits " + Check.told(bits, narrow), () -> writer.digits(bits, narrow));
                Check.notFinite("power " + Check.told(bits, narrow), () -> writer.power(bits, narrow));
            }
        }
    }

    public static void main(String[] args) {
        written();
        many(false);
        many(true);
        refused();
        Check.end();
    }
}
