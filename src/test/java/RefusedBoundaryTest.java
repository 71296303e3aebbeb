import java.util.LinkedHashMap;
import java.util.Map;

/** Terms, the last paragraph: formats, and which exception is thrown and what it leaves. */
public final class RefusedBoundaryTest {
    private static void narrowTellsTheFormat() {
        Check.sentence("narrow tells the format of bits, everywhere.");
        long bits = 0x7F800000L;
        Fresh.print(bits, true, "Infinity");
        Fresh.print(bits, false, "1.0568533725E-314");
        Fresh.hexadecimal(bits, true, "Infinity");
        Fresh.hexadecimal(bits, false, "0x0.000007f8p-1022");
        Check.notFinite("fixed, narrow", () -> new FloatWriter().fixed(bits, true, 0, 1));
        Fresh.fixed(bits, false, 0, 1, "1");
        Check.notFinite("scientific, narrow", () -> new FloatWriter().scientific(bits, true, 1, 1));
        Fresh.scientific(bits, false, 1, 1, "2e-314");
        Check.notFinite("digits, narrow", () -> new FloatWriter().digits(bits, true));
        Check.notFinite("power, narrow", () -> new FloatWriter().power(bits, true));
        Fresh.shortest(bits, false, 10568533725L, -324);
        Fresh.next(bits, true, true, bits);
        Fresh.next(bits, false, true, bits + 1);
        Fresh.next(0x80000000L, true, false, 0x80000001L);
        Fresh.next(0x80000000L, false, false, 0x7FFFFFFFL);
    }

    /** Every call that has narrow bits, on this object. */
    private static Map<String, Check.Call> callsOfNarrow(FloatWriter writer, long bits) {
        Map<String, Check.Call> calls = new LinkedHashMap<>();
        calls.put("print", () -> writer.print(bits, true));
        calls.put("hexadecimal", () -> writer.hexadecimal(bits, true));
        calls.put("fixed", () -> writer.fixed(bits, true, 1, 0));
        calls.put("fixed with bad places", () -> writer.fixed(bits, true, 1101, 0));
        calls.put("scientific", () -> writer.scientific(bits, true, 1, 0));
        calls.put("scientific with a bad way", () -> writer.scientific(bits, true, 1, 4));
        calls.put("digits", () -> writer.digits(bits, true));
        calls.put("power", () -> writer.power(bits, true));
        calls.put("next up", () -> writer.next(bits, true, true));
        calls.put("next down", () -> writer.next(bits, true, false));
        calls.put("widened", () -> writer.widened(bits));
        return calls;
    }

    private static void highBits() {
        Check.sentence("narrow bits above the 32 lowest ones: IllegalArgumentException, everywhere");
        for (int bit = 32; bit < 64; bit++) {
            long bits = 1L << bit | 0x3F800000L;
            callsOfNarrow(new FloatWriter(), bits).forEach(
                    (name, call) -> Check.refused(name + " " + Long.toHexString(bits), call));
        }
        for (long bits : new long[] {-1L, Long.MIN_VALUE, Long.MAX_VALUE, 1L << 32, 0xFFFFFFFF80000000L}) {
            callsOfNarrow(new FloatWriter(), bits).forEach(
                    (name, call) -> Check.refused(name + " " + Long.toHexString(bits), call));
        }
    }

    private static void theseAreNotRefused() {
        Check.sentence("narrow bits above the 32 lowest ones (the 32 lowest ones, and wide bits, are all fine)");
        Fresh.print(0xFFFFFFFFL, true, "NaN");
        Fresh.print(1L << 32, false, "2.121995791E-314");
        Fresh.hexadecimal(0xFF7FFFFFL, true, "-0x1.fffffep127");
        Fresh.fixed(0xBF800000L, true, 0, 0, "-1");
        Fresh.scientific(0xBF800000L, true, 1, 0, "-1e+00");
        Fresh.shortest(0xBF800000L, true, 1, 0);
        Fresh.next(0xFFFFFFFFL, true, true, 0xFFFFFFFFL);
        Fresh.next(-1L, false, true, -1L);
        Fresh.widened(0xBF800000L, Check.wide(-1.0));
        Fresh.narrowed(-1L, 0x7FC00000L);
        Fresh.narrowed(Check.wide(-1.0), 0xBF800000L);
    }

    private static void testedFirst() {
        Check.sentence("narrow bits above the 32 lowest ones: .. tested first. (before not finite)");
        for (long bits : new long[] {0x17F800000L, 0x1FF800000L, 0x17FC00000L, 0x7FF0000000000000L}) {
            callsOfNarrow(new FloatWriter(), bits).forEach(
                    (name, call) -> Check.refused(name + " " + Long.toHexString(bits), call));
        }
    }

    private static void theOneNamedFirst() {
        Check.sentence("the one named first when several would do");
        for (boolean narrow : new boolean[] {false, true}) {
            for (long bits : Numbers.notFinite(narrow)) {
                String told = Check.told(bits, narrow);
                FloatWriter writer = new FloatWriter();
                Check.refused("fixed, places -1 " + told, () -> writer.fixed(bits, narrow, -1, 0));
                Check.refused("fixed, places 1101 " + told, () -> writer.fixed(bits, narrow, 1101, 0));
                Check.refused("fixed, way -1 " + told, () -> writer.fixed(bits, narrow, 0, -1));
                Check.refused("fixed, way 4 " + told, () -> writer.fixed(bits, narrow, 0, 4));
                Check.refused("scientific, figures 0 " + told, () -> writer.scientific(bits, narrow, 0, 0));
                Check.refused("scientific, figures 801 " + told, () -> writer.scientific(bits, narrow, 801, 0));
                Check.refused("scientific, way -1 " + told, () -> writer.scientific(bits, narrow, 1, -1));
                Check.refused("scientific, way 4 " + told, () -> writer.scientific(bits, narrow, 1, 4));
            }
        }
    }

    /** All calls that throw, on this object. */
    private static Map<String, Check.Call> callsThatThrow(FloatWriter writer) {
        Map<String, Check.Call> calls = callsOfNarrow(writer, 1L << 32);
        long one = Check.wide(1.0);
        calls.put("fixed, places -1", () -> writer.fixed(one, false, -1, 0));
        calls.put("fixed, places 1101", () -> writer.fixed(one, false, 1101, 0));
        calls.put("fixed, way -1", () -> writer.fixed(one, false, 0, -1));
        calls.put("fixed, way 4", () -> writer.fixed(one, false, 0, 4));
        calls.put("scientific, figures 0", () -> writer.scientific(one, false, 0, 0));
        calls.put("scientific, figures 801", () -> writer.scientific(one, false, 801, 0));
        calls.put("scientific, way -1", () -> writer.scientific(one, false, 1, -1));
        calls.put("scientific, way 4", () -> writer.scientific(one, false, 1, 4));
        for (boolean narrow : new boolean[] {false, true}) {
            for (long bits : Numbers.notFinite(narrow)) {
                String told = " " + Check.told(bits, narrow);
                calls.put("fixed" + told, () -> writer.fixed(bits, narrow, 0, 0));
                calls.put("scientific" + told, () -> writer.scientific(bits, narrow, 1, 0));
                calls.put("digits" + told, () -> writer.digits(bits, narrow));
                calls.put("power" + told, () -> writer.power(bits, narrow));
            }
        }
        return calls;
    }

    private static void changesNothing() {
        Check.sentence("a call that throws changes nothing");
        FloatWriter writer = new FloatWriter();
        callsThatThrow(writer).forEach((name, call) -> {
            Check.equal(name, String.valueOf(Check.answer(call)).startsWith("throws."), true);
            Check.equal("paper() of a new object after " + name, writer.paper(), 0);
            Check.equal("paperAt(0) of a new object after " + name, writer.paperAt(0), 0L);
        });
        FloatWriter printed = new FloatWriter();
        printed.print(Check.wide(-0.125), false);
        callsThatThrow(printed).forEach((name, call) -> {
            Check.answer(call);
            Check.equal("the text after " + name, Check.text(printed), "-0.125");
        });
        Check.equal("digits after all that", printed.digits(Check.wide(0.3), false), 3L);
        Check.equal("print after all that", printed.print(Check.wide(0.3), false), 3);
        Check.equal("its text", Check.text(printed), "0.3");
    }

    public static void main(String[] args) {
        narrowTellsTheFormat();
        highBits();
        theseAreNotRefused();
        testedFirst();
        theOneNamedFirst();
        changesNothing();
        Check.end();
    }
}
