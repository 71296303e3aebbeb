/** Terms, HEXADECIMAL TEXT, and promise 3. */
public final class HexadecimalBoundaryTest {
    private static void notFinite() {
        Check.sentence("as the short text in what is not finite");
        Fresh.hexadecimal(0x7FF0000000000000L, false, "Infinity");
        Fresh.hexadecimal(0xFFF0000000000000L, false, "-Infinity");
        Fresh.hexadecimal(0x7FF0000000000001L, false, "NaN");
        Fresh.hexadecimal(-1L, false, "NaN");
        Fresh.hexadecimal(0x7F800000L, true, "Infinity");
        Fresh.hexadecimal(0xFF800000L, true, "-Infinity");
        Fresh.hexadecimal(0x7F800001L, true, "NaN");
        Fresh.hexadecimal(0xFFFFFFFFL, true, "NaN");
    }

    private static void sign() {
        Check.sentence("and for the sign");
        Fresh.hexadecimalWide(-1.0, "-0x1.0p0");
        Fresh.hexadecimalWide(-Double.MIN_VALUE, "-0x0.0000000000001p-1022");
        Fresh.hexadecimalWide(-0.0, "-0x0.0p0");
        Fresh.hexadecimalNarrow(-1f, "-0x1.0p0");
        Fresh.hexadecimalNarrow(-0f, "-0x0.0p0");
    }

    private static void zero() {
        Check.sentence("0 is 0x0.0p0");
        Fresh.hexadecimal(0L, false, "0x0.0p0");
        Fresh.hexadecimal(0L, true, "0x0.0p0");
    }

    private static void exponentAboveZeroOrNot() {
        Check.sentence("if E is above 0: 0x1. and F, else 0x0. and F");
        Fresh.hexadecimal(0x000FFFFFFFFFFFFFL, false, "0x0.fffffffffffffp-1022");
        Fresh.hexadecimal(0x0010000000000000L, false, "0x1.0p-1022");
        Fresh.hexadecimal(0x0010000000000001L, false, "0x1.0000000000001p-1022");
        Fresh.hexadecimal(0x7FEFFFFFFFFFFFFFL, false, "0x1.fffffffffffffp1023");
        Fresh.hexadecimal(0x007FFFFFL, true, "0x0.fffffep-126");
        Fresh.hexadecimal(0x00800000L, true, "0x1.0p-126");
        Fresh.hexadecimal(0x00800001L, true, "0x1.000002p-126");
        Fresh.hexadecimal(0x7F7FFFFFL, true, "0x1.fffffep127");
    }

    private static void thirteenFigures() {
        Check.sentence("F as hexadecimal figures 0 .. 9 a .. f (wide: 13 of them");
        Fresh.hexadecimal(0x3FF0123456789ABCL, false, "0x1.0123456789abcp0");
        Fresh.hexadecimal(0x3FFFEDCBA9876543L, false, "0x1.fedcba9876543p0");
        Fresh.hexadecimal(0x3FF0000000000001L, false, "0x1.0000000000001p0");
        Fresh.hexadecimal(0x3FF8000000000000L, false, "0x1.8p0");
    }

    private static void sixFigures() {
        Check.sentence("narrow: six, of which the last bit is 0 more)");
        Fresh.hexadecimal(0x3F800001L, true, "0x1.000002p0");
        Fresh.hexadecimal(0x3FC00000L, true, "0x1.8p0");
        Fresh.hexadecimal(0x3F91A2B3L, true, "0x1.234566p0");
        Fresh.hexadecimal(0x3FFFFFFFL, true, "0x1.fffffep0");
    }

    private static void noZeroAtTheEnd() {
        Check.sentence("without 0 at the end, but one at least");
        Fresh.hexadecimal(0x3FF0000000000000L, false, "0x1.0p0");
        Fresh.hexadecimal(0x3FF1000000000000L, false, "0x1.1p0");
        Fresh.hexadecimal(0x3FF0100000000000L, false, "0x1.01p0");
        Fresh.hexadecimal(0x3FF1000000000010L, false, "0x1.100000000001p0");
        Fresh.hexadecimal(0x3F800000L, true, "0x1.0p0");
        Fresh.hexadecimal(0x3F880000L, true, "0x1.1p0");
        Fresh.hexadecimal(0x3F808000L, true, "0x1.01p0");
        Fresh.hexadecimal(0x3F880008L, true, "0x1.10001p0");
    }

    private static void powerOfTwo() {
        Check.sentence("then p and the power of 2 (that for which F's point stands so");
        Fresh.hexadecimalWide(1.0, "0x1.0p0");
        Fresh.hexadecimalWide(2.0, "0x1.0p1");
        Fresh.hexadecimalWide(0.5, "0x1.0p-1");
        Fresh.hexadecimalWide(0x1p9, "0x1.0p9");
        Fresh.hexadecimalWide(0x1p10, "0x1.0p10");
        Fresh.hexadecimalWide(0x1p99, "0x1.0p99");
        Fresh.hexadecimalWide(0x1p100, "0x1.0p100");
        Fresh.hexadecimalWide(0x1p999, "0x1.0p999");
        Fresh.hexadecimalWide(0x1p1000, "0x1.0p1000");
        Fresh.hexadecimalWide(0x1p1023, "0x1.0p1023");
        Fresh.hexadecimalWide(0x1p-10, "0x1.0p-10");
        Fresh.hexadecimalWide(0x1p-100, "0x1.0p-100");
        Fresh.hexadecimalWide(0x1p-1000, "0x1.0p-1000");
        Fresh.hexadecimalWide(0x1p-1021, "0x1.0p-1021");
        Fresh.hexadecimalNarrow(0x1p127f, "0x1.0p127");
        Fresh.hexadecimalNarrow(0x1p-125f, "0x1.0p-125");
        Fresh.hexadecimalNarrow(0.5f, "0x1.0p-1");
    }

    private static void powerOfExponentZero() {
        Check.sentence("-1022 or -126 if E is 0).");
        Fresh.hexadecimal(1L, false, "0x0.0000000000001p-1022");
        Fresh.hexadecimal(0x0008000000000000L, false, "0x0.8p-1022");
        Fresh.hexadecimal(1L, true, "0x0.000002p-126");
        Fresh.hexadecimal(0x00400000L, true, "0x0.8p-126");
    }

    public static void main(String[] args) {
        notFinite();
        sign();
        zero();
        exponentAboveZeroOrNot();
        thirteenFigures();
        sixFigures();
        noZeroAtTheEnd();
        powerOfTwo();
        powerOfExponentZero();
        Check.end();
    }
}
