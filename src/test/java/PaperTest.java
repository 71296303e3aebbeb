/** Promises 6 and 7: what the paper has, and that only printing changes it. */
public final class PaperTest {
    private static long eight(String text, long from) {
        long eight = 0;
        for (int k = 0; k < 8; k++) {
            long place = from + k;
            if (place >= 0 && place < text.length()) {
                eight |= (long) text.charAt((int) place) << (8 * k);
            }
        }
        return eight;
    }

    private static void has(String when, FloatWriter writer, String text) {
        Check.equal("paper() " + when, writer.paper(), text.length());
        for (int i = -10; i < text.length() + 10; i++) {
            Check.equal("paperAt(" + i + ") " + when, writer.paperAt(i), eight(text, i));
        }
        for (int i = 0; i < 10; i++) {
            Check.equal("paperAt near MAX_VALUE " + when, writer.paperAt(Integer.MAX_VALUE - i), 0L);
            Check.equal("paperAt near MIN_VALUE " + when, writer.paperAt(Integer.MIN_VALUE + i), 0L);
        }
    }

    private static void longAndShort() {
        FloatWriter writer = new FloatWriter();
        long greatest = Check.wide(-Double.MAX_VALUE);
        writer.fixed(greatest, false, 50, 0);
        has("after a long text", writer, Due.fixed(greatest, false, 50, 0));
        FloatWriter again = new FloatWriter();
        Check.equal("the longest text", again.fixed(greatest, false, 1100, 0), 1411);
        String all = Due.fixed(greatest, false, 1100, 0);
        for (int i = 1380; i < 1430; i++) {
            Check.equal("paperAt(" + i + ") of the longest text", again.paperAt(i), eight(all, i));
        }
        again.print(Check.wide(1.5), false);
        has("after a short text behind a long one", again, "1.5");
        again.hexadecimal(Check.wide(-0.1), false);
        has("after a hexadecimal text", again, "-0x1.999999999999ap-4");
        again.scientific(Check.wide(1.5), false, 3, 0);
        has("after a scientific text", again, "1.50e+00");
    }

    private static void othersLeaveIt() {
        FloatWriter writer = new FloatWriter();
        writer.print(Check.wide(-0.125), false);
        writer.digits(Check.wide(1e300), false);
        writer.power(Check.wide(1e-300), false);
        writer.next(Check.wide(1.0), false, true);
        writer.narrowed(Check.wide(1.0));
        writer.widened(Check.narrow(1f));
        has("after calls that do not print", writer, "-0.125");
        Check.notFinite("fixed", () -> writer.fixed(Check.wide(Double.NaN), false, 0, 0));
        Check.notFinite("digits", () -> writer.digits(Check.wide(Double.NaN), false));
        Check.refused("print", () -> writer.print(-1L, true));
        Check.refused("hexadecimal", () -> writer.hexadecimal(-1L, true));
        Check.refused("scientific", () -> writer.scientific(0L, false, 0, 0));
        has("after calls that threw", writer, "-0.125");
    }

    public static void main(String[] args) {
        longAndShort();
        othersLeaveIt();
        Check.end();
    }
}
