/** The examples of README.md answer what it says. */
public final class ReadmeTest {
    private static String paperOf(FloatWriter writer) {
        StringBuilder text = new StringBuilder();
        for (int i = 0; i < writer.paper(); i++) {
            text.append((char) (writer.paperAt(i) & 0xFF));
        }
        return text.toString();
    }

    private static void printed(FloatWriter writer, int answer, int length, String text) {
        Check.equal("the length of " + text, answer, length);
        Check.equal("the paper of " + text, paperOf(writer), text);
    }

    public static void main(String[] args) {
        FloatWriter writer = new FloatWriter();
        long wide = Double.doubleToRawLongBits(0.1);
        long narrow = Float.floatToRawIntBits(-0.1f) & 0xFFFFFFFFL;
        printed(writer, writer.print(wide, false), 3, "0.1");
        printed(writer, writer.print(narrow, true), 4, "-0.1");
        printed(writer, writer.hexadecimal(wide, false), 20, "0x1.999999999999ap-4");
        printed(writer, writer.fixed(wide, false, 20, 2), 22, "0.10000000000000000555");
        printed(writer, writer.scientific(wide, false, 3, 1), 8, "1.01e-01");
        Check.equal("digits", writer.digits(wide, false), 1L);
        Check.equal("power", writer.power(wide, false), -1);
        Check.equal("next", writer.next(wide, false, true), Check.wide(0.10000000000000002));
        Check.equal("narrowed", writer.narrowed(wide), Check.narrow(0.1f));
        Check.equal("widened", writer.widened(narrow), Check.wide(-0.10000000149011612));
        Check.end();
    }
}
