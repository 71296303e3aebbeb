import java.math.BigDecimal;
import java.math.BigInteger;

/** Terms: the bits of numbers, their sizes, and to which number a value rounds. */
public final class NumbersBoundaryTest {
    private static void wideBits() {
        Check.sentence("WIDE: 64 bits, a SIGN, 11 bits of EXPONENT, 52 of FRACTION, from the highest on.");
        Fresh.hexadecimal(1L << 63, false, "-0x0.0p0");
        Fresh.hexadecimal(1L << 62, false, "0x1.0p1");
        Fresh.hexadecimal(1L << 52, false, "0x1.0p-1022");
        Fresh.hexadecimal(1L << 51, false, "0x0.8p-1022");
        Fresh.hexadecimal(1L, false, "0x0.0000000000001p-1022");
        Fresh.print(-1L, false, "NaN");
    }

    private static void narrowBits() {
        Check.sentence("NARROW: the 32 lowest bits of a long, the others 0:"
                + " a sign, 8 bits of exponent, 23 of fraction.");
        Fresh.hexadecimal(1L << 31, true, "-0x0.0p0");
        Fresh.hexadecimal(1L << 30, true, "0x1.0p1");
        Fresh.hexadecimal(1L << 23, true, "0x1.0p-126");
        Fresh.hexadecimal(1L << 22, true, "0x0.8p-126");
        Fresh.hexadecimal(1L, true, "0x0.000002p-126");
        Fresh.print(0xFFFFFFFFL, true, "NaN");
        Check.refused("print of bit 32", () -> new FloatWriter().print(1L << 32, true));
    }

    private static void allBitsOfTheExponent() {
        Check.sentence("If all bits of the exponent are 1, it is INFINITE (F is 0) or NO NUMBER.");
        Fresh.print(0x7FEFFFFFFFFFFFFFL, false, "1.7976931348623157E308");
        Fresh.print(0x7FF0000000000000L, false, "Infinity");
        Fresh.print(0xFFF0000000000000L, false, "-Infinity");
        Fresh.print(0x7FF0000000000001L, false, "NaN");
        Fresh.print(0x7FF8000000000000L, false, "NaN");
        Fresh.print(0xFFF0000000000001L, false, "NaN");
        Fresh.print(0x7F7FFFFFL, true, "3.4028235E38");
        Fresh.print(0x7F800000L, true, "Infinity");
        Fresh.print(0xFF800000L, true, "-Infinity");
        Fresh.print(0x7F800001L, true, "NaN");
        Fresh.print(0x7FC00000L, true, "NaN");
        Fresh.print(0xFF800001L, true, "NaN");
    }

    private static BigDecimal times2To(long whole, int power) {
        if (power >= 0) {
            return new BigDecimal(BigInteger.valueOf(whole).shiftLeft(power));
        }
        return new BigDecimal(whole).divide(new BigDecimal(BigInteger.ONE.shiftLeft(-power)));
    }

    /** All figures of the size, from the document's formula alone. */
    private static void sizeIs(long bits, boolean narrow, BigDecimal size) {
        String want = size.setScale(1100).toPlainString();
        Fresh.fixed(bits, narrow, 1100, 0, want);
        Fresh.fixed(bits | Numbers.signBit(narrow), narrow, 1100, 0, "-" + want);
    }

    private static void exponentZero() {
        Check.sentence("If E is 0, its size is F times 2 to the (1 - B)");
        sizeIs(1L, false, times2To(1L, 1 - 1075));
        sizeIs(0x000FFFFFFFFFFFFFL, false, times2To(0x000FFFFFFFFFFFFFL, 1 - 1075));
        sizeIs(1L, true, times2To(1L, 1 - 150));
        sizeIs(0x007FFFFFL, true, times2To(0x007FFFFFL, 1 - 150));
        sizeIs(0L, false, BigDecimal.ZERO);
        sizeIs(0L, true, BigDecimal.ZERO);
    }

    private static void exponentAboveZero() {
        Check.sentence("else it is (F and 2 to the P) times 2 to the (E - B)");
        long whole = 1L << 52;
        sizeIs(0x0010000000000000L, false, times2To(whole, 1 - 1075));
        sizeIs(0x001FFFFFFFFFFFFFL, false, times2To(2 * whole - 1, 1 - 1075));
        sizeIs(0x0020000000000000L, false, times2To(whole, 2 - 1075));
        sizeIs(0x4330000000000001L, false, times2To(whole + 1, 0));
        sizeIs(0x4320000000000001L, false, times2To(whole + 1, -1));
        sizeIs(0x4350000000000001L, false, times2To(whole + 1, 2));
        sizeIs(0x4360000000000001L, false, times2To(whole + 1, 3));
        sizeIs(0x7FEFFFFFFFFFFFFFL, false, times2To(2 * whole - 1, 2046 - 1075));
        long narrowWhole = 1L << 23;
        sizeIs(0x00800000L, true, times2To(narrowWhole, 1 - 150));
        sizeIs(0x00FFFFFFL, true, times2To(2 * narrowWhole - 1, 1 - 150));
        sizeIs(0x01000000L, true, times2To(narrowWhole, 2 - 150));
        sizeIs(0x4B000001L, true, times2To(narrowWhole + 1, 0));
        sizeIs(0x7F7FFFFFL, true, times2To(2 * narrowWhole - 1, 254 - 150));
    }

    private static void minusZero() {
        Check.sentence("it is below 0 if the sign is 1 (0 with the sign 1 is MINUS ZERO).");
        Fresh.printWide(-1.0, "-1.0");
        Fresh.printNarrow(-1f, "-1.0");
        Fresh.print(0x8000000000000000L, false, "-0.0");
        Fresh.print(0x80000000L, true, "-0.0");
        Fresh.hexadecimal(0x8000000000000000L, false, "-0x0.0p0");
        Fresh.hexadecimal(0x80000000L, true, "-0x0.0p0");
        Fresh.fixed(0x8000000000000000L, false, 1, 0, "-0.0");
        Fresh.fixed(0x80000000L, true, 1, 0, "-0.0");
        Fresh.scientific(0x8000000000000000L, false, 1, 0, "-0e+00");
        Fresh.scientific(0x80000000L, true, 1, 0, "-0e+00");
        Fresh.shortest(0x8000000000000000L, false, 0, 0);
        Fresh.shortest(0x80000000L, true, 0, 0);
    }

    private static void finite() {
        Check.sentence("Others than infinite ones and no numbers are FINITE.");
        for (boolean narrow : new boolean[] {false, true}) {
            long sign = Numbers.signBit(narrow);
            long infinity = Numbers.infinity(narrow);
            for (long bits : new long[] {0, sign, 1, sign | 1, infinity - 1, sign | (infinity - 1)}) {
                String told = Check.told(bits, narrow);
                FloatWriter writer = new FloatWriter();
                Check.equal("fixed " + told, writer.fixed(bits, narrow, 0, 0) > 0, true);
                Check.equal("scientific " + told, writer.scientific(bits, narrow, 1, 0) > 0, true);
                Check.equal("digits " + told, writer.digits(bits, narrow) >= 0, true);
                Check.equal("power " + told, writer.power(bits, narrow) > -400, true);
            }
        }
    }

    private static void nearest() {
        Check.sentence("A value above 0 ROUNDS to the finite number of its format that is nearest");
        Fresh.narrowed(Check.wide(1 + 0x1p-24 - 0x1p-52), 0x3F800000L);
        Fresh.narrowed(Check.wide(1 + 0x1p-24 + 0x1p-52), 0x3F800001L);
        Fresh.narrowed(Check.wide(Math.nextDown(0x1p-150)), 0L);
        Fresh.narrowed(Check.wide(Math.nextUp(0x1p-150)), 1L);
        Fresh.narrowed(Check.wide(Math.nextDown(0x3p-150)), 1L);
        Fresh.narrowed(Check.wide(Math.nextUp(0x3p-150)), 2L);
        Fresh.narrowed(Check.wide(0x1p-126 - 0x3p-151), 0x007FFFFFL);
        Fresh.narrowed(Check.wide(0x1p-126 - 0x1p-151), 0x00800000L);
        Fresh.narrowed(Check.wide(Math.nextDown(1.0)), 0x3F800000L);
        Fresh.narrowed(Check.wide(Math.nextDown(0x1p127)), 0x7F000000L);
        Fresh.narrowed(1L, 0L);
        Fresh.narrowed(0x000FFFFFFFFFFFFFL, 0L);
    }

    private static void ofTwo() {
        Check.sentence("of two such that whose lowest bit is 0");
        Fresh.narrowed(Check.wide(1 + 0x1p-24), 0x3F800000L);
        Fresh.narrowed(Check.wide(1 + 0x3p-24), 0x3F800002L);
        Fresh.narrowed(Check.wide(0x1p-150), 0L);
        Fresh.narrowed(Check.wide(0x3p-150), 2L);
        Fresh.narrowed(Check.wide(0x5p-150), 2L);
        Fresh.narrowed(Check.wide(0x7p-150), 4L);
        Fresh.narrowed(Check.wide(2 - 0x1p-24), 0x40000000L);
        Fresh.narrowed(Check.wide(0x1p-126 - 0x1p-150), 0x00800000L);
        Fresh.narrowed(Check.wide(0x1p-126 - 0x3p-150), 0x007FFFFEL);
        Fresh.print(0x4470069EFB362CDAL, false, "4.73E21");
        Fresh.print(0x447017F7DF96BE18L, false, "4.75E21");
    }

    private static void toInfinity() {
        Check.sentence("if it is .. 2 to the 128 less 2 to the 103 or more (narrow), to infinity.");
        Fresh.narrowed(Check.wide(0x1p128 - 0x1p104), 0x7F7FFFFFL);
        Fresh.narrowed(Check.wide(Math.nextDown(0x1p128 - 0x1p103)), 0x7F7FFFFFL);
        Fresh.narrowed(Check.wide(0x1p128 - 0x1p103), 0x7F800000L);
        Fresh.narrowed(Check.wide(Math.nextUp(0x1p128 - 0x1p103)), 0x7F800000L);
        Fresh.narrowed(Check.wide(Math.nextDown(0x1p128)), 0x7F800000L);
        Fresh.narrowed(Check.wide(0x1p128), 0x7F800000L);
        Fresh.narrowed(Check.wide(0x1p129), 0x7F800000L);
        Fresh.narrowed(Check.wide(0x1.8p1000), 0x7F800000L);
        Fresh.narrowed(0x7FEFFFFFFFFFFFFFL, 0x7F800000L);
    }

    private static void belowZero() {
        Check.sentence("A value below 0 rounds to the same with the sign 1.");
        Fresh.narrowed(Check.wide(-1.0), 0xBF800000L);
        Fresh.narrowed(Check.wide(-1 - 0x1p-24), 0xBF800000L);
        Fresh.narrowed(Check.wide(-1 - 0x3p-24), 0xBF800002L);
        Fresh.narrowed(Check.wide(-0x1p-150), 0x80000000L);
        Fresh.narrowed(Check.wide(-0x3p-150), 0x80000002L);
        Fresh.narrowed(0x8000000000000001L, 0x80000000L);
        Fresh.narrowed(Check.wide(Math.nextUp(-0x1p128 + 0x1p103)), 0xFF7FFFFFL);
        Fresh.narrowed(Check.wide(-0x1p128 + 0x1p103), 0xFF800000L);
        Fresh.narrowed(0xFFEFFFFFFFFFFFFFL, 0xFF800000L);
    }

    public static void main(String[] args) {
        wideBits();
        narrowBits();
        allBitsOfTheExponent();
        exponentZero();
        exponentAboveZero();
        minusZero();
        finite();
        nearest();
        ofTwo();
        toInfinity();
        belowZero();
        Check.end();
    }
}
