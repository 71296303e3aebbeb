/** Promise 1, and the face. */
public final class NewObjectTest {
    public static void main(String[] args) {
        Check.equal("NONE", FloatWriter.NONE, -1);
        FloatWriter writer = new FloatWriter();
        Check.equal("paper() of a new object", writer.paper(), 0);
        for (int i : new int[] {0, 1, 8, -1, -8, 1439, 1440, Integer.MAX_VALUE, Integer.MIN_VALUE}) {
            Check.equal("paperAt(" + i + ") of a new object", writer.paperAt(i), 0L);
        }
        FloatWriter other = new FloatWriter();
        writer.print(Check.wide(1.5), false);
        Check.equal("paper() of another object", other.paper(), 0);
        Check.equal("paperAt(0) of another object", other.paperAt(0), 0L);
        Check.end();
    }
}
