/** Promise 10, sentence by sentence, in both formats. */
public final class NextBoundaryTest {
    private static void eachSide(boolean narrow) {
        Check.sentence("The bits of the least number of the format that is greater, or, if up is not so,"
                + " of the greatest one that is less");
        long sign = Numbers.signBit(narrow);
        long whole = narrow ? 0x00800000L : 0x0010000000000000L;
        Fresh.next(5L, narrow, true, 6L);
        Fresh.next(5L, narrow, false, 4L);
        Fresh.next(sign | 5L, narrow, true, sign | 4L);
        Fresh.next(sign | 5L, narrow, false, sign | 6L);
        // From one exponent to the next, the first of these from E 0 to E 1.
        for (long first : new long[] {whole, 2 * whole, 100 * whole}) {
            Fresh.next(first - 1, narrow, true, first);
            Fresh.next(first, narrow, false, first - 1);
            Fresh.next(sign | (first - 1), narrow, false, sign | first);
            Fresh.next(sign | first, narrow, true, sign | (first - 1));
        }
    }

    private static void zeros(boolean narrow) {
        Check.sentence("0 and minus zero are the same here");
        long sign = Numbers.signBit(narrow);
        Fresh.next(0L, narrow, true, 1L);
        Fresh.next(sign, narrow, true, 1L);
        Fresh.next(0L, narrow, false, sign | 1L);
        Fresh.next(sign, narrow, false, sign | 1L);
    }

    private static void afterTheLeastSize(boolean narrow) {
        Check.sentence("what comes after the least size, towards 0, is 0 with the sign of that.");
        long sign = Numbers.signBit(narrow);
        Fresh.next(1L, narrow, false, 0L);
        Fresh.next(sign | 1L, narrow, true, sign);
        Fresh.next(1L, narrow, true, 2L);
        Fresh.next(sign | 1L, narrow, false, sign | 2L);
    }

    private static void afterTheGreatest(boolean narrow) {
        Check.sentence("Infinity comes after the greatest finite number.");
        long sign = Numbers.signBit(narrow);
        long infinity = Numbers.infinity(narrow);
        Fresh.next(infinity - 1, narrow, true, infinity);
        Fresh.next(infinity - 2, narrow, true, infinity - 1);
        Fresh.next(infinity, narrow, false, infinity - 1);
        Fresh.next(sign | (infinity - 1), narrow, false, sign | infinity);
        Fresh.next(sign | infinity, narrow, true, sign | (infinity - 1));
    }

    private static void upwardsTheyStay(boolean narrow) {
        Check.sentence("Infinity and no number stay upwards");
        long sign = Numbers.signBit(narrow);
        long infinity = Numbers.infinity(narrow);
        Fresh.next(infinity, narrow, true, infinity);
        for (long bits : new long[] {infinity + 1, sign - 1, sign | (infinity + 1), sign | (sign - 1)}) {
            Fresh.next(bits, narrow, true, bits);
        }
    }

    private static void downwardsTheyStay(boolean narrow) {
        Check.sentence("minus infinity and no number downwards.");
        long sign = Numbers.signBit(narrow);
        long infinity = Numbers.infinity(narrow);
        Fresh.next(sign | infinity, narrow, false, sign | infinity);
        for (long bits : new long[] {infinity + 1, sign - 1, sign | (infinity + 1), sign | (sign - 1)}) {
            Fresh.next(bits, narrow, false, bits);
        }
    }

    private static void ofTheFormat() {
        Check.sentence("of the format (the wide numbers go on where the narrow ones end)");
        Fresh.next(0xFFFFFFFFL, false, true, 0x100000000L);
        Fresh.next(0x100000000L, false, false, 0xFFFFFFFFL);
        Fresh.next(0x7F800000L, false, true, 0x7F800001L);
        Fresh.next(0x80000000L, false, true, 0x80000001L);
    }

    public static void main(String[] args) {
        for (boolean narrow : new boolean[] {false, true}) {
            eachSide(narrow);
            zeros(narrow);
            afterTheLeastSize(narrow);
            afterTheGreatest(narrow);
            upwardsTheyStay(narrow);
            downwardsTheyStay(narrow);
        }
        ofTheFormat();
        Check.end();
    }
}
