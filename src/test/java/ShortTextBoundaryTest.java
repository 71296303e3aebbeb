/** Terms, SHORT TEXT, and promise 2. */
public final class ShortTextBoundaryTest {
    private static void noNumber() {
        Check.sentence("no number: NaN.");
        for (long bits : new long[] {0x7FF0000000000001L, 0x7FFFFFFFFFFFFFFFL, 0xFFF0000000000001L, -1L}) {
            Fresh.print(bits, false, "NaN");
        }
        for (long bits : new long[] {0x7F800001L, 0x7FFFFFFFL, 0xFF800001L, 0xFFFFFFFFL}) {
            Fresh.print(bits, true, "NaN");
        }
    }

    private static void sign() {
        Check.sentence("Others: - for the sign 1");
        Fresh.printWide(-0.0, "-0.0");
        Fresh.printWide(-Double.MIN_VALUE, "-4.9E-324");
        Fresh.printWide(-1e7, "-1.0E7");
        Fresh.printWide(-1e-3, "-0.001");
        Fresh.printWide(Double.NEGATIVE_INFINITY, "-Infinity");
        Fresh.printNarrow(-0f, "-0.0");
        Fresh.printNarrow(-Float.MIN_VALUE, "-1.4E-45");
        Fresh.printNarrow(Float.NEGATIVE_INFINITY, "-Infinity");
    }

    private static void infinite() {
        Check.sentence("infinite: Infinity");
        Fresh.printWide(Double.POSITIVE_INFINITY, "Infinity");
        Fresh.printNarrow(Float.POSITIVE_INFINITY, "Infinity");
    }

    private static void zero() {
        Check.sentence("0: 0.0");
        Fresh.print(0L, false, "0.0");
        Fresh.print(0L, true, "0.0");
    }

    private static void belowTenToThe7() {
        Check.sentence("if x is below 10 to the 7");
        Fresh.printWide(Math.nextDown(1e7), "9999999.999999998");
        Fresh.printWide(1e7, "1.0E7");
        Fresh.printWide(Math.nextUp(1e7), "1.0000000000000002E7");
        Fresh.printWide(9999999.0, "9999999.0");
        Fresh.printWide(10000001.0, "1.0000001E7");
        Fresh.printNarrow(Math.nextDown(1e7f), "9999999.0");
        Fresh.printNarrow(1e7f, "1.0E7");
        Fresh.printNarrow(Math.nextUp(1e7f), "1.0000001E7");
    }

    private static void notBelowTenToTheMinus3() {
        Check.sentence("and not below 10 to the -3");
        Fresh.printWide(Math.nextUp(1e-3), "0.0010000000000000002");
        Fresh.printWide(1e-3, "0.001");
        Fresh.printWide(Math.nextDown(1e-3), "9.999999999999998E-4");
        Fresh.printWide(9.99e-4, "9.99E-4");
        Fresh.printNarrow(Math.nextUp(1e-3f), "0.0010000002");
        Fresh.printNarrow(1e-3f, "0.001");
        Fresh.printNarrow(Math.nextDown(1e-3f), "9.999999E-4");
    }

    private static void oneBeforeThePoint() {
        Check.sentence("the value written out with a point, at least one figure before it");
        Fresh.printWide(0.5, "0.5");
        Fresh.printWide(0.012, "0.012");
        Fresh.printWide(Math.nextDown(1.0), "0.9999999999999999");
        Fresh.printNarrow(0.5f, "0.5");
    }

    private static void oneBehindThePoint() {
        Check.sentence("and at least one behind it");
        Fresh.printWide(1.0, "1.0");
        Fresh.printWide(10.0, "10.0");
        Fresh.printWide(1000000.0, "1000000.0");
        Fresh.printWide(1234567.0, "1234567.0");
        Fresh.printNarrow(1000000f, "1000000.0");
    }

    private static void noZeroAtTheEnd() {
        Check.sentence("no 0 at the end of more than one behind it");
        Fresh.printWide(1.5, "1.5");
        Fresh.printWide(1.25, "1.25");
        Fresh.printWide(1234567.125, "1234567.125");
        Fresh.printWide(0.1, "0.1");
        Fresh.printWide(100.5, "100.5");
        Fresh.printWide(1.05, "1.05");
        Fresh.printNarrow(1.25f, "1.25");
    }

    private static void noZeroAtTheBeginning() {
        Check.sentence("and no 0 at the beginning of more than one before it");
        Fresh.printWide(1.75, "1.75");
        Fresh.printWide(10.75, "10.75");
        Fresh.printWide(0.75, "0.75");
        Fresh.printWide(100000.75, "100000.75");
    }

    private static void withPower() {
        Check.sentence("else: d, a point, the other figures (0 if there is none), E,"
                + " and the power of 10 that d stands for");
        Fresh.printWide(2e7, "2.0E7");
        Fresh.printWide(1.2e7, "1.2E7");
        Fresh.printWide(12345678.5, "1.23456785E7");
        Fresh.printWide(1e9, "1.0E9");
        Fresh.printWide(1e10, "1.0E10");
        Fresh.printWide(9e99, "9.0E99");
        Fresh.printWide(1e100, "1.0E100");
        Fresh.printWide(1e308, "1.0E308");
        Fresh.printWide(1.05e20, "1.05E20");
        Fresh.printNarrow(2e7f, "2.0E7");
        Fresh.printNarrow(1e38f, "1.0E38");
    }

    private static void powerBelowZero() {
        Check.sentence("with - if it is below 0.");
        Fresh.printWide(1e-4, "1.0E-4");
        Fresh.printWide(1.5e-4, "1.5E-4");
        Fresh.printWide(1e-9, "1.0E-9");
        Fresh.printWide(1e-10, "1.0E-10");
        Fresh.printWide(9e-99, "9.0E-99");
        Fresh.printWide(1e-100, "1.0E-100");
        Fresh.printWide(Double.MIN_VALUE, "4.9E-324");
        Fresh.printNarrow(1e-4f, "1.0E-4");
        Fresh.printNarrow(Float.MIN_VALUE, "1.4E-45");
    }

    public static void main(String[] args) {
        noNumber();
        sign();
        infinite();
        zero();
        belowTenToThe7();
        notBelowTenToTheMinus3();
        oneBeforeThePoint();
        oneBehindThePoint();
        noZeroAtTheEnd();
        noZeroAtTheBeginning();
        withPower();
        powerBelowZero();
        Check.end();
    }
}
