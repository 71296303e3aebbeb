/** Terms, THE PAPER, and promises 1, 6 and 7. */
public final class PaperBoundaryTest {
    private static void nothingWasPrinted() {
        Check.sentence("Promise 1: Nothing was printed.");
        FloatWriter writer = new FloatWriter();
        Check.equal("paper()", writer.paper(), 0);
        for (int i : new int[] {-9, -8, -1, 0, 1, 8, 1410, 1440, Integer.MAX_VALUE, Integer.MIN_VALUE}) {
            Check.equal("paperAt(" + i + ")", writer.paperAt(i), 0L);
        }
    }

    private static void printedLast() {
        Check.sentence("THE PAPER has what was printed last.");
        FloatWriter writer = new FloatWriter();
        long bits = Check.wide(-1.5);
        writer.fixed(bits, false, 40, 0);
        Check.equal("after fixed", Check.text(writer), "-1.5" + "0".repeat(39));
        writer.print(bits, false);
        Check.equal("after print", Check.text(writer), "-1.5");
        writer.hexadecimal(bits, false);
        Check.equal("after hexadecimal", Check.text(writer), "-0x1.8p0");
        writer.scientific(bits, false, 3, 0);
        Check.equal("after scientific", Check.text(writer), "-1.50e+00");
        writer.print(0L, false);
        Check.equal("after print of 0", Check.text(writer), "0.0");
        writer.print(-1L, false);
        Check.equal("after print of no number", Check.text(writer), "NaN");
    }

    private static void onlyPrintingChangesIt() {
        Check.sentence("THE PAPER has what was printed last (other calls print nothing).");
        FloatWriter writer = new FloatWriter();
        writer.digits(Check.wide(1.5), false);
        writer.power(Check.wide(1.5), false);
        writer.next(1L, false, true);
        writer.narrowed(1L);
        writer.widened(1L);
        Check.equal("paper() after calls that do not print", writer.paper(), 0);
        writer.print(Check.wide(2.5), false);
        writer.digits(Check.wide(1.25e300), false);
        writer.power(Check.wide(1.25e300), false);
        writer.next(1L, false, true);
        writer.narrowed(1L);
        writer.widened(1L);
        writer.paperAt(1);
        writer.paper();
        Check.equal("paper() after them", writer.paper(), 3);
        Check.equal("the text after them", Check.text(writer), "2.5");
    }

    private static void howManyBytes() {
        Check.sentence("All that print answer how many bytes that is. (Promise 6: How many bytes the paper has.)");
        FloatWriter writer = new FloatWriter();
        long greatest = 0xFFEFFFFFFFFFFFFFL;
        Check.equal("print", writer.print(greatest, false), 23);
        Check.equal("paper() after print", writer.paper(), 23);
        Check.equal("hexadecimal", writer.hexadecimal(greatest, false), 23);
        Check.equal("paper() after hexadecimal", writer.paper(), 23);
        Check.equal("fixed", writer.fixed(greatest, false, 1100, 0), 1411);
        Check.equal("paper() after fixed", writer.paper(), 1411);
        Check.equal("scientific", writer.scientific(greatest, false, 800, 0), 807);
        Check.equal("paper() after scientific", writer.paper(), 807);
        Check.equal("the shortest text", writer.fixed(0L, false, 0, 0), 1);
        Check.equal("paper() after it", writer.paper(), 1);
    }

    private static long bytes(String eight) {
        long all = 0;
        for (int k = 0; k < 8; k++) {
            all |= (long) eight.charAt(k) << (8 * k);
        }
        return all;
    }

    private static void has(FloatWriter writer, int place, String eight) {
        Check.equal("paperAt(" + place + ")", writer.paperAt(place), bytes(eight));
    }

    private static void firstOneLowest() {
        Check.sentence("Promise 7: The eight bytes of the paper from place i on, the first one as the lowest");
        FloatWriter writer = new FloatWriter();
        writer.print(Check.wide(1234567.125), false);
        Check.equal("paperAt(0)", writer.paperAt(0), 0x2E37363534333231L);
        has(writer, 0, "1234567.");
        has(writer, 1, "234567.1");
        has(writer, 3, "4567.125");
    }

    private static void behindTheEnd() {
        Check.sentence("Promise 7: 0 for those that it has not (behind its end)");
        FloatWriter writer = new FloatWriter();
        writer.print(Check.wide(1.234567), false);
        has(writer, 0, "1.234567");
        has(writer, 1, ".234567\0");
        has(writer, 7, "7\0\0\0\0\0\0\0");
        for (int i : new int[] {8, 9, 1439, 1440, 1441}) {
            Check.equal("paperAt(" + i + ")", writer.paperAt(i), 0L);
        }
    }

    private static void beforeTheBeginning() {
        Check.sentence("Promise 7: 0 for those that it has not (before its beginning)");
        FloatWriter writer = new FloatWriter();
        writer.print(Check.wide(1.234567), false);
        has(writer, -1, "\0" + "1.23456");
        has(writer, -7, "\0\0\0\0\0\0\0" + "1");
        has(writer, -8, "\0\0\0\0\0\0\0\0");
        has(writer, -9, "\0\0\0\0\0\0\0\0");
        writer.print(0L, false);
        has(writer, -3, "\0\0\0" + "0.0" + "\0\0");
    }

    private static void wrapAround() {
        Check.sentence("Promise 7: 0 for those that it has not (at the ends of int)");
        FloatWriter writer = new FloatWriter();
        writer.fixed(0xFFEFFFFFFFFFFFFFL, false, 1100, 0);
        for (int k = 0; k < 9; k++) {
            Check.equal("paperAt(MAX - " + k + ")", writer.paperAt(Integer.MAX_VALUE - k), 0L);
            Check.equal("paperAt(MIN + " + k + ")", writer.paperAt(Integer.MIN_VALUE + k), 0L);
        }
    }

    private static void lastBytes() {
        Check.sentence("Promise 7: The eight bytes of the paper (at the end of the longest text)");
        FloatWriter writer = new FloatWriter();
        writer.fixed(0xFFEFFFFFFFFFFFFFL, false, 1100, 0);
        has(writer, 0, "-1797693");
        has(writer, 309, "8.000000");
        has(writer, 1403, "00000000");
        has(writer, 1404, "0000000\0");
        has(writer, 1410, "0\0\0\0\0\0\0\0");
        Check.equal("paperAt(1411)", writer.paperAt(1411), 0L);
    }

    private static void nothingIsLeftOver() {
        Check.sentence("Promise 7: 0 for those that it has not (but an earlier text had)");
        FloatWriter writer = new FloatWriter();
        writer.fixed(0xFFEFFFFFFFFFFFFFL, false, 1100, 0);
        writer.print(0L, false);
        has(writer, 0, "0.0\0\0\0\0\0");
        for (int i : new int[] {3, 4, 100, 1403, 1410}) {
            Check.equal("paperAt(" + i + ")", writer.paperAt(i), 0L);
        }
    }

    private static void ofItsOwn() {
        Check.sentence("Promise 1: Nothing was printed (on the paper of another object).");
        FloatWriter first = new FloatWriter();
        FloatWriter second = new FloatWriter();
        first.print(Check.wide(1.5), false);
        Check.equal("paper() of the other", second.paper(), 0);
        second.print(Check.wide(10.25), false);
        Check.equal("the text of the first", Check.text(first), "1.5");
        Check.equal("the text of the second", Check.text(second), "10.25");
    }

    public static void main(String[] args) {
        nothingWasPrinted();
        printedLast();
        onlyPrintingChangesIt();
        howManyBytes();
        firstOneLowest();
        behindTheEnd();
        beforeTheBeginning();
        wrapAround();
        lastBytes();
        nothingIsLeftOver();
        ofItsOwn();
        Check.end();
    }
}
