/** What it is: an object is used for at most 512 calls, of which the last is as good as the first. */
public final class CallsBoundaryTest {
    private static final int CALLS = 512;

    private static void dearest() {
        Check.sentence("An object is used for at most 512 calls (512 times the longest text)");
        FloatWriter writer = new FloatWriter();
        for (int call = 1; call < CALLS; call++) {
            Check.equal("fixed, call " + call, writer.fixed(0xFFEFFFFFFFFFFFFFL, false, 1100, 1), 1411);
        }
        Check.equal("paperAt, the last call", writer.paperAt(1403), 0x3030303030303030L);
    }

    private static void allKinds() {
        Check.sentence("An object is used for at most 512 calls (all kinds, each number in turn)");
        FloatWriter writer = new FloatWriter();
        long bits = Check.wide(0.1);
        for (int call = 0; call + 8 <= CALLS; call += 8) {
            long other = bits + call;
            Check.equal("print", writer.print(other, false), Due.print(other, false).length());
            Check.equal("fixed", writer.fixed(other, false, 60, 3), 62);
            Check.equal("scientific", writer.scientific(other, false, 60, 3), 65);
            Check.equal("paper", writer.paper(), 65);
            Check.equal("digits of 1.5", writer.digits(Check.wide(1.5), false), 15L);
            Check.equal("power of 1.5", writer.power(Check.wide(1.5), false), -1);
            Check.equal("next", writer.next(other, false, true), other + 1);
            Check.equal("narrowed", writer.narrowed(other), 0x3DCCCCCDL);
        }
    }

    private static void refusedOnes() {
        Check.sentence("An object is used for at most 512 calls (calls that throw are calls, too)");
        FloatWriter writer = new FloatWriter();
        writer.print(Check.wide(-2.5), false);
        for (int call = 2; call <= CALLS - 1; call++) {
            Check.refused("print, call " + call, () -> writer.print(-1L, true));
        }
        Check.equal("paperAt, the last call", writer.paperAt(0), 0x352E322DL);
    }

    public static void main(String[] args) {
        dearest();
        allKinds();
        refusedOnes();
        Check.end();
    }
}
