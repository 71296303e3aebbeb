import java.util.Objects;

/** What all tests share: counting wrong answers, reading the paper, telling what was thrown. */
final class Check {
    interface Call {
        Object run();
    }

    private static int wrong = 0;
    private static String sentence = null;

    private Check() {}

    /** The words of the document that the checks from here on are about. */
    static void sentence(String words) {
        sentence = words;
    }

    static void equal(String call, Object got, Object want) {
        if (!Objects.equals(got, want)) {
            wrong++;
            if (wrong <= 50) {
                String about = sentence == null ? "" : " [" + sentence + "]";
                System.out.println(call + " answered " + got + ", due is " + want + about);
            }
        }
    }

    /** The answer of a call, or throws. and the exact class of what it throws. */
    static Object answer(Call call) {
        try {
            return call.run();
        } catch (RuntimeException e) {
            return "throws." + e.getClass().getSimpleName();
        }
    }

    static void refused(String call, Call made) {
        equal(call, answer(made), "throws.IllegalArgumentException");
    }

    static void notFinite(String call, Call made) {
        equal(call, answer(made), "throws.ArithmeticException");
    }

    /** The whole paper, read eight bytes at a time. */
    static String text(FloatWriter writer) {
        StringBuilder text = new StringBuilder();
        int length = writer.paper();
        for (int i = 0; i < length; i += 8) {
            long eight = writer.paperAt(i);
            for (int k = 0; k < 8 && i + k < length; k++) {
                text.append((char) ((eight >>> (8 * k)) & 0xFF));
            }
        }
        return text.toString();
    }

    /** The call that printed answered this length, and the paper has this text. */
    static void printed(String call, FloatWriter writer, int answer, String want) {
        equal(call, text(writer), want);
        equal(call + " (its length)", answer, want.length());
        equal(call + " (behind its end)", writer.paperAt(want.length()), 0L);
    }

    static long wide(double value) {
        return Double.doubleToRawLongBits(value);
    }

    static long narrow(float value) {
        return Float.floatToRawIntBits(value) & 0xFFFFFFFFL;
    }

    static String told(long bits, boolean narrow) {
        return "0x" + Long.toHexString(bits) + (narrow ? " narrow" : " wide");
    }

    static void end() {
        System.out.println(wrong == 0 ? "all answers are as due" : wrong + " answers are wrong");
        if (wrong != 0) {
            System.exit(1);
        }
    }
}
