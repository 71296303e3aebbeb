/** One call on a new object each, with the answer that is due. */
final class Fresh {
    private Fresh() {}

    static void print(long bits, boolean narrow, String want) {
        FloatWriter writer = new FloatWriter();
        int length = writer.print(bits, narrow);
        Check.printed("print " + Check.told(bits, narrow), writer, length, want);
    }

    static void printWide(double value, String want) {
        print(Check.wide(value), false, want);
    }

    static void printNarrow(float value, String want) {
        print(Check.narrow(value), true, want);
    }

    static void hexadecimal(long bits, boolean narrow, String want) {
        FloatWriter writer = new FloatWriter();
        int length = writer.hexadecimal(bits, narrow);
        Check.printed("hexadecimal " + Check.told(bits, narrow), writer, length, want);
    }

    static void hexadecimalWide(double value, String want) {
        hexadecimal(Check.wide(value), false, want);
    }

    static void hexadecimalNarrow(float value, String want) {
        hexadecimal(Check.narrow(value), true, want);
    }

    static void fixed(long bits, boolean narrow, int places, int way, String want) {
        FloatWriter writer = new FloatWriter();
        int length = writer.fixed(bits, narrow, places, way);
        String call = "fixed " + Check.told(bits, narrow) + " " + places + " " + way;
        Check.printed(call, writer, length, want);
    }

    /** The four texts that are due in the four ways. */
    static void fixedWays(double value, int places, String... want) {
        for (int way = 0; way < 4; way++) {
            fixed(Check.wide(value), false, places, way, want[way]);
        }
    }

    static void fixedNarrowWays(float value, int places, String... want) {
        for (int way = 0; way < 4; way++) {
            fixed(Check.narrow(value), true, places, way, want[way]);
        }
    }

    /** One text in all ways. */
    static void fixedAlways(double value, int places, String want) {
        fixedWays(value, places, want, want, want, want);
    }

    static void scientific(long bits, boolean narrow, int figures, int way, String want) {
        FloatWriter writer = new FloatWriter();
        int length = writer.scientific(bits, narrow, figures, way);
        String call = "scientific " + Check.told(bits, narrow) + " " + figures + " " + way;
        Check.printed(call, writer, length, want);
    }

    static void scientificWays(double value, int figures, String... want) {
        for (int way = 0; way < 4; way++) {
            scientific(Check.wide(value), false, figures, way, want[way]);
        }
    }

    static void scientificNarrowWays(float value, int figures, String... want) {
        for (int way = 0; way < 4; way++) {
            scientific(Check.narrow(value), true, figures, way, want[way]);
        }
    }

    static void scientificAlways(double value, int figures, String want) {
        scientificWays(value, figures, want, want, want, want);
    }

    static void shortest(long bits, boolean narrow, long digits, int power) {
        String told = Check.told(bits, narrow);
        Check.equal("digits " + told, new FloatWriter().digits(bits, narrow), digits);
        Check.equal("power " + told, new FloatWriter().power(bits, narrow), power);
    }

    static void shortestWide(double value, long digits, int power) {
        shortest(Check.wide(value), false, digits, power);
    }

    static void shortestNarrow(float value, long digits, int power) {
        shortest(Check.narrow(value), true, digits, power);
    }

    static void next(long bits, boolean narrow, boolean up, long want) {
        String call = "next " + Check.told(bits, narrow) + (up ? " up" : " down");
        Check.equal(call, new FloatWriter().next(bits, narrow, up), want);
    }

    static void narrowed(long bits, long want) {
        Check.equal("narrowed " + Check.told(bits, false), new FloatWriter().narrowed(bits), want);
    }

    static void widened(long bits, long want) {
        Check.equal("widened " + Check.told(bits, true), new FloatWriter().widened(bits), want);
    }
}
