/** Terms, SHORTEST DECIMAL, and promises 8 and 9. */
public final class ShortestBoundaryTest {
    private static void ofItsSize() {
        Check.sentence("SHORTEST DECIMAL of a finite number that is not 0: of its size x.");
        Fresh.shortestWide(-0.3, 3, -1);
        Fresh.shortestNarrow(-0.3f, 3, -1);
        Fresh.shortest(0x8000000000000001L, false, 49, -325);
        Fresh.shortest(0x80000001L, true, 14, -46);
        Fresh.shortest(0xFFEFFFFFFFFFFFFFL, false, 17976931348623157L, 292);
        Fresh.shortest(0xFF7FFFFFL, true, 34028235L, 31);
    }

    private static void evenOnesHaveTheirBounds() {
        Check.sentence("Let R be the decimals that round to x (the middle to the next number goes to the even one)");
        // The middle above, then the middle below; each with the odd number on its other side.
        Fresh.print(0x4470069EFB362CDAL, false, "4.73E21");
        Fresh.print(0x4470069EFB362CDBL, false, "4.730000000000001E21");
        Fresh.print(0x447017F7DF96BE18L, false, "4.75E21");
        Fresh.print(0x447017F7DF96BE17L, false, "4.749999999999999E21");
        Fresh.print(0x4E80636EL, true, "1.077E9");
        Fresh.print(0x4E80636FL, true, "1.0770001E9");
        Fresh.print(0x4E802666L, true, "1.075E9");
        Fresh.print(0x4E802665L, true, "1.0749999E9");
        Fresh.printWide(1e23, "1.0E23");
        Fresh.printWide(Math.nextUp(1e23), "1.0000000000000001E23");
    }

    private static void powersOfTwoAreCloserBelow() {
        Check.sentence("Let R be the decimals that round to x (below a power of 2 the next number is half as far)");
        Fresh.printWide(0x1p-44, "5.684341886080802E-14");
        Fresh.printWide(0x1p64, "1.8446744073709552E19");
        Fresh.printWide(0x1p66, "7.378697629483821E19");
        Fresh.printWide(0x1p-1019, "1.7800590868057611E-307");
        Fresh.printNarrow(0x1p25f, "3.3554432E7");
        Fresh.printNarrow(0x1p-96f, "1.2621775E-29");
        Fresh.printNarrow(0x1p89f, "6.1897002E26");
        Fresh.printWide(Double.MIN_NORMAL, "2.2250738585072014E-308");
        Fresh.printNarrow(Float.MIN_NORMAL, "1.1754944E-38");
    }

    private static void greatest() {
        Check.sentence("Let R be the decimals that round to x (those that round to infinity are none of them)");
        Fresh.shortest(0x7FEFFFFFFFFFFFFFL, false, 17976931348623157L, 292);
        Fresh.shortest(0x7FEFFFFFFFFFFFFEL, false, 17976931348623155L, 292);
        Fresh.shortest(0x7F7FFFFFL, true, 34028235L, 31);
        Fresh.shortest(0x7F7FFFFEL, true, 34028233L, 31);
    }

    private static void leastLength() {
        Check.sentence("n the least length of one in R");
        Fresh.shortestWide(0.1, 1, -1);
        Fresh.shortestWide(0.1 + 0.2, 30000000000000004L, -17);
        Fresh.shortestWide(9007199254740991.0, 9007199254740991L, 0);
        Fresh.shortestWide(9007199254740993e3, 9007199254740993L, 3);
        Fresh.shortestWide(1e22, 1, 22);
        Fresh.shortest(21L, false, 104, -324);
        Fresh.shortestNarrow(0.1f, 1, -1);
        Fresh.shortestNarrow(16777215f, 16777215, 0);
        Fresh.shortestNarrow(1e10f, 1, 10);
        Fresh.shortestNarrow(1 / 3f, 33333334, -8);
    }

    private static void twoForOne() {
        Check.sentence("but 2 if that is 1.");
        // 5e-324 and 1e-323 would do, too, but are not the nearest of two figures.
        Fresh.shortest(1L, false, 49, -325);
        Fresh.shortest(2L, false, 99, -325);
        Fresh.shortest(3L, false, 15, -324);
        Fresh.shortest(9L, false, 44, -324);
        Fresh.shortest(10L, false, 49, -324);
        Fresh.shortest(20L, false, 99, -324);
        Fresh.shortest(1L, true, 14, -46);
        Fresh.shortest(2L, true, 28, -46);
        Fresh.shortest(3L, true, 42, -46);
        Fresh.shortest(7L, true, 98, -46);
        Fresh.shortest(8L, true, 11, -45);
    }

    private static void twoFiguresMayEndInZero() {
        Check.sentence("(so with more figures, too, with 0 behind)");
        Fresh.shortest(4L, false, 2, -323);
        Fresh.shortest(6L, false, 3, -323);
        Fresh.shortest(8L, false, 4, -323);
        Fresh.shortestWide(2e-3, 2, -3);
        Fresh.shortestWide(9e300, 9, 300);
    }

    private static void nearest() {
        Check.sentence("Of all in R with the length n the shortest decimal is the one nearest to x");
        Fresh.shortest(5L, false, 25, -324);
        Fresh.shortest(7L, false, 35, -324);
        Fresh.shortestWide(0x1p-1022 - 0x1p-1074, 2225073858507201L, -323);
        Fresh.shortestWide(2e23, 2, 23);
        Fresh.shortestWide(5e-5, 5, -5);
        Fresh.shortestWide(9007199254740992.0, 9007199254740992L, 0);
        Fresh.shortestWide(18014398509481988.0, 18014398509481988L, 0);
        // A hair above, and a hair below, the middle between two of R.
        Fresh.shortest(0x6C622DFDE1BBCEEEL, false, 12240314480857619L, 198);
        Fresh.shortest(0x728C6FCCEA6E7864L, false, 60677268104203365L, 227);
        Fresh.shortest(0x5EE1B8F0F17AF958L, false, 11330551652959885L, 133);
        Fresh.shortest(0x4111A59B6FDDB734L, false, 28912685924421553L, -11);
        // The even one of two equally near ones is none of R.
        Fresh.shortestWide(0x1p-24, 5960464477539063L, -23);
    }

    private static void ofTwoTheEvenOne() {
        Check.sentence("of two such that whose c, of n figures, is even.");
        Fresh.shortestWide(0x1p50 + 0.25, 11258999068426242L, -1);
        Fresh.shortestWide(0x1p50 + 0.75, 11258999068426248L, -1);
        Fresh.shortestWide(0x1p-25, 29802322387695312L, -24);
        Fresh.shortestNarrow(0x1p21f + 0.25f, 20971522L, -1);
        Fresh.shortestNarrow(0x1p21f + 0.75f, 20971528L, -1);
    }

    private static void noZeroAtTheEnd() {
        Check.sentence("Promise 8: The c of the shortest decimal that has no 0 at its end");
        Fresh.shortestWide(1.0, 1, 0);
        Fresh.shortestWide(10.0, 1, 1);
        Fresh.shortestWide(100.0, 1, 2);
        Fresh.shortestWide(101.0, 101, 0);
        Fresh.shortestWide(1010.0, 101, 1);
        Fresh.shortestWide(1e-300, 1, -300);
        Fresh.shortestWide(1e308, 1, 308);
        Fresh.shortestNarrow(100f, 1, 2);
        Fresh.shortestNarrow(1e38f, 1, 38);
    }

    private static void zero() {
        Check.sentence("Promises 8 and 9: 0 for 0.");
        Fresh.shortest(0L, false, 0, 0);
        Fresh.shortest(Long.MIN_VALUE, false, 0, 0);
        Fresh.shortest(0L, true, 0, 0);
        Fresh.shortest(0x80000000L, true, 0, 0);
        // Nothing is left over from the number before.
        FloatWriter writer = new FloatWriter();
        writer.digits(Check.wide(1.5e300), false);
        Check.equal("digits of 0 after others", writer.digits(0L, false), 0L);
        Check.equal("power of 0 after others", writer.power(0L, false), 0);
    }

    private static void thePowerGoesWithIt() {
        Check.sentence("Promise 9: The i that goes with it");
        Fresh.shortestWide(1.5e300, 15, 299);
        Fresh.shortestWide(1.5e-300, 15, -301);
        Fresh.shortestWide(0.5, 5, -1);
        Fresh.shortestWide(5.0, 5, 0);
        Fresh.shortestWide(50.0, 5, 1);
        FloatWriter writer = new FloatWriter();
        writer.digits(Check.wide(1.5e300), false);
        Check.equal("power of another number", writer.power(Check.wide(25.0), false), 0);
    }

    private static void notFinite() {
        Check.sentence("Promises 8 and 9: ArithmeticException: it is not finite.");
        for (boolean narrow : new boolean[] {false, true}) {
            for (long bits : Numbers.notFinite(narrow)) {
                String told = Check.told(bits, narrow);
                Check.notFinite("digits " + told, () -> new FloatWriter().digits(bits, narrow));
                Check.notFinite("power " + told, () -> new FloatWriter().power(bits, narrow));
            }
        }
    }

    public static void main(String[] args) {
        ofItsSize();
        evenOnesHaveTheirBounds();
        powersOfTwoAreCloserBelow();
        greatest();
        leastLength();
        twoForOne();
        twoFiguresMayEndInZero();
        nearest();
        ofTwoTheEvenOne();
        noZeroAtTheEnd();
        zero();
        thePowerGoesWithIt();
        notFinite();
        Check.end();
    }
}
