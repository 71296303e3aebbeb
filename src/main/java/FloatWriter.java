/**
 * Prints binary floating-point numbers, told by their bits, onto a paper: the shortest decimal
 * text, the hexadecimal text, and the figures of the exact value, rounded in four ways.
 *
 * <p>All arithmetic is on whole numbers: a binary number is a whole number over a power of ten,
 * so its decimal figures are those of one big whole number, and nothing has to be guessed.
 */
public final class FloatWriter {
    public static final int NONE = -1;

    private static final int MOST_PLACES = 1100;
    private static final int MOST_FIGURES = 800;
    private static final int LAST_WAY = 3;

    private static final int WIDE_FRACTION_BITS = 52;
    private static final int NARROW_FRACTION_BITS = 23;
    private static final long WIDE_INFINITY = 0x7FF0000000000000L;
    private static final long NARROW_INFINITY = 0x7F800000L;
    private static final long WIDE_NO_NUMBER = 0x7FF8000000000000L;
    private static final long NARROW_NO_NUMBER = 0x7FC00000L;
    /** How much greater the wide exponent of a value is than its narrow one. */
    private static final int EXPONENT_GAP = 896;

    private static final long[] TENS = {
        1L, 10L, 100L, 1000L, 10000L, 100000L, 1000000L, 10000000L, 100000000L, 1000000000L,
        10000000000L, 100000000000L, 1000000000000L, 10000000000000L, 100000000000000L,
        1000000000000000L, 10000000000000000L, 100000000000000000L, 1000000000000000000L
    };

    private final Sheet sheet;
    private final Exact exact;
    private final Shortest shortest;

    public FloatWriter() {
        sheet = new Sheet();
        exact = new Exact();
        shortest = new Shortest();
    }

    public int print(long bits, boolean narrow) throws IllegalArgumentException {
        refuseHighBits(bits, narrow);
        sheet.clear();
        if (isFinite(bits, narrow)) {
            writeSign(bits, narrow);
            writeShortSize(bits, narrow);
        } else {
            writeNotFinite(bits, narrow);
        }
        return sheet.length();
    }

    public int hexadecimal(long bits, boolean narrow) throws IllegalArgumentException {
        refuseHighBits(bits, narrow);
        sheet.clear();
        if (isFinite(bits, narrow)) {
            writeSign(bits, narrow);
            writeHexadecimalSize(bits, narrow);
        } else {
            writeNotFinite(bits, narrow);
        }
        return sheet.length();
    }

    public int fixed(long bits, boolean narrow, int places, int way)
            throws IllegalArgumentException, ArithmeticException {
        refuseHighBits(bits, narrow);
        refuseOutside(places, 0, MOST_PLACES);
        refuseOutside(way, 0, LAST_WAY);
        refuseNotFinite(bits, narrow);
        sheet.clear();
        writeSign(bits, narrow);
        exact.expand(significand(bits, narrow), binaryPower(bits, narrow));
        writeFixedSize(places, way);
        return sheet.length();
    }

    public int scientific(long bits, boolean narrow, int figures, int way)
            throws IllegalArgumentException, ArithmeticException {
        refuseHighBits(bits, narrow);
        refuseOutside(figures, 1, MOST_FIGURES);
        refuseOutside(way, 0, LAST_WAY);
        refuseNotFinite(bits, narrow);
        sheet.clear();
        writeSign(bits, narrow);
        exact.expand(significand(bits, narrow), binaryPower(bits, narrow));
        writeScientificSize(figures, way);
        return sheet.length();
    }

    public int paper() {
        return sheet.length();
    }

    public long paperAt(int i) {
        return sheet.eightFrom(i);
    }

    public long digits(long bits, boolean narrow)
            throws IllegalArgumentException, ArithmeticException {
        refuseHighBits(bits, narrow);
        refuseNotFinite(bits, narrow);
        if (significand(bits, narrow) == 0) {
            return 0;
        }
        shortest.find(bits, narrow);
        return shortest.coefficient();
    }

    public int power(long bits, boolean narrow)
            throws IllegalArgumentException, ArithmeticException {
        refuseHighBits(bits, narrow);
        refuseNotFinite(bits, narrow);
        if (significand(bits, narrow) == 0) {
            return 0;
        }
        shortest.find(bits, narrow);
        return shortest.tens();
    }

    public long next(long bits, boolean narrow, boolean up) throws IllegalArgumentException {
        refuseHighBits(bits, narrow);
        long size = sizeBits(bits, narrow);
        if (size > infinity(narrow)) {
            return bits;
        }
        if (size == 0) {
            return up ? 1 : signBit(narrow) | 1;
        }
        boolean towardsZero = isNegative(bits, narrow) == up;
        if (towardsZero) {
            return bits - 1;
        }
        return size == infinity(narrow) ? bits : bits + 1;
    }

    public long narrowed(long bits) {
        long size = sizeBits(bits, false);
        if (size > WIDE_INFINITY) {
            return NARROW_NO_NUMBER;
        }
        long sign = isNegative(bits, false) ? signBit(true) : 0;
        return sign | narrowedSize(size);
    }

    public long widened(long bits) throws IllegalArgumentException {
        refuseHighBits(bits, true);
        long size = sizeBits(bits, true);
        if (size > NARROW_INFINITY) {
            return WIDE_NO_NUMBER;
        }
        long sign = isNegative(bits, true) ? signBit(false) : 0;
        return sign | widenedSize(size);
    }

    // What is refused.

    private static void refuseHighBits(long bits, boolean narrow) {
        if (narrow && bits >>> 32 != 0) {
            throw new IllegalArgumentException("narrow bits above the 32 lowest ones");
        }
    }

    private static void refuseOutside(int value, int least, int most) {
        if (value < least || value > most) {
            throw new IllegalArgumentException("places, figures or way out of range");
        }
    }

    private static void refuseNotFinite(long bits, boolean narrow) {
        if (!isFinite(bits, narrow)) {
            throw new ArithmeticException("not finite");
        }
    }

    // The parts of a number.

    private static int fractionBits(boolean narrow) {
        return narrow ? NARROW_FRACTION_BITS : WIDE_FRACTION_BITS;
    }

    private static long infinity(boolean narrow) {
        return narrow ? NARROW_INFINITY : WIDE_INFINITY;
    }

    private static long signBit(boolean narrow) {
        return 1L << (narrow ? 31 : 63);
    }

    private static boolean isNegative(long bits, boolean narrow) {
        return (bits & signBit(narrow)) != 0;
    }

    private static long sizeBits(long bits, boolean narrow) {
        return bits & (signBit(narrow) - 1);
    }

    private static boolean isFinite(long bits, boolean narrow) {
        return sizeBits(bits, narrow) < infinity(narrow);
    }

    private static int exponent(long bits, boolean narrow) {
        return (int) (sizeBits(bits, narrow) >>> fractionBits(narrow));
    }

    private static long fraction(long bits, boolean narrow) {
        return bits & ((1L << fractionBits(narrow)) - 1);
    }

    /** The whole number that, times 2 to the binaryPower, is the size of a finite number. */
    private static long significand(long bits, boolean narrow) {
        long hidden = exponent(bits, narrow) == 0 ? 0 : 1L << fractionBits(narrow);
        return hidden | fraction(bits, narrow);
    }

    private static int binaryPower(long bits, boolean narrow) {
        return Math.max(exponent(bits, narrow), 1) - (narrow ? 150 : 1075);
    }

    /** At a power of 2 the numbers below stand twice as close, but not among the least ones. */
    private static boolean isCloserBelow(long bits, boolean narrow) {
        return fraction(bits, narrow) == 0 && exponent(bits, narrow) > 1;
    }

    // From one format to the other.

    private static long narrowedSize(long size) {
        if (size == WIDE_INFINITY) {
            return NARROW_INFINITY;
        }
        int drop = WIDE_FRACTION_BITS - NARROW_FRACTION_BITS;
        int exponent = exponent(size, false) - EXPONENT_GAP;
        if (exponent > 0) {
            // A carry out of the fraction goes on into the exponent, and there is right.
            long kept = size - ((long) EXPONENT_GAP << WIDE_FRACTION_BITS);
            return Math.min(halvedToEven(kept, drop), NARROW_INFINITY);
        }
        return halvedToEven(significand(size, false), Math.min(drop + 1 - exponent, 60));
    }

    /** The value over 2 to the times (1 .. 62), rounded to the nearest, of two to the even one. */
    private static long halvedToEven(long value, int times) {
        long whole = value >>> times;
        long rest = value & ((1L << times) - 1);
        long half = 1L << (times - 1);
        boolean up = rest > half || rest == half && (whole & 1) == 1;
        return up ? whole + 1 : whole;
    }

    private static long widenedSize(long size) {
        if (size == NARROW_INFINITY) {
            return WIDE_INFINITY;
        }
        int more = WIDE_FRACTION_BITS - NARROW_FRACTION_BITS;
        if (exponent(size, true) > 0) {
            return (size << more) + ((long) EXPONENT_GAP << WIDE_FRACTION_BITS);
        }
        if (size == 0) {
            return 0;
        }
        int top = NARROW_FRACTION_BITS - 1;
        while (top > 0 && size >>> top == 0) {
            top--;
        }
        // 2 to the -149 is the least narrow size, 1023 the wide exponent of 1.
        long exponent = top - 149 + 1023;
        long fraction = fraction(size << (WIDE_FRACTION_BITS - top), false);
        return (exponent << WIDE_FRACTION_BITS) | fraction;
    }

    // What is written.

    private void writeSign(long bits, boolean narrow) {
        if (isNegative(bits, narrow)) {
            sheet.put('-');
        }
    }

    private void writeNotFinite(long bits, boolean narrow) {
        if (sizeBits(bits, narrow) > infinity(narrow)) {
            sheet.putText("NaN");
        } else {
            writeSign(bits, narrow);
            sheet.putText("Infinity");
        }
    }

    private void writeShortSize(long bits, boolean narrow) {
        if (significand(bits, narrow) == 0) {
            sheet.putText("0.0");
            return;
        }
        shortest.find(bits, narrow);
        // 10 to the 7 and the number nearest to 10 to the -3, which is not below it, have
        // themselves as shortest decimals; so the decimal tells where the size stands.
        int first = shortest.firstPower();
        if (first >= -3 && first < 7) {
            writeShortPlain(first);
        } else {
            writeShortWithPower(first);
        }
    }

    private void writeShortPlain(int first) {
        int last = Math.min(shortest.tens(), -1);
        for (int place = Math.max(first, 0); place >= last; place--) {
            if (place == -1) {
                sheet.put('.');
            }
            sheet.putFigure(shortest.figureAt(place));
        }
    }

    private void writeShortWithPower(int first) {
        sheet.putFigure(shortest.figureAt(first));
        sheet.put('.');
        int last = Math.min(shortest.tens(), first - 1);
        for (int place = first - 1; place >= last; place--) {
            sheet.putFigure(shortest.figureAt(place));
        }
        sheet.put('E');
        sheet.putNumber(first);
    }

    private void writeHexadecimalSize(long bits, boolean narrow) {
        if (significand(bits, narrow) == 0) {
            sheet.putText("0x0.0p0");
            return;
        }
        sheet.putText(exponent(bits, narrow) == 0 ? "0x0." : "0x1.");
        if (narrow) {
            writeHexadecimalFigures(fraction(bits, true) << 1, 6);
        } else {
            writeHexadecimalFigures(fraction(bits, false), 13);
        }
        sheet.put('p');
        sheet.putNumber(binaryPower(bits, narrow) + fractionBits(narrow));
    }

    private void writeHexadecimalFigures(long fraction, int figures) {
        int last = 0;
        while (last < figures - 1 && ((fraction >>> (4 * last)) & 15) == 0) {
            last++;
        }
        for (int place = figures - 1; place >= last; place--) {
            sheet.putFigure((int) ((fraction >>> (4 * place)) & 15));
        }
    }

    private void writeFixedSize(int places, int way) {
        int ones = exact.scale();
        int last = ones - places;
        exact.roundAt(last, way);
        for (int place = Math.max(exact.figureCount() - 1, ones); place >= last; place--) {
            if (place == ones - 1) {
                sheet.put('.');
            }
            sheet.putFigure(exact.figureAt(place));
        }
    }

    private void writeScientificSize(int figures, int way) {
        exact.roundAt(exact.figureCount() - figures, way);
        // Counted again: 99 rounded up has one figure more.
        int first = exact.figureCount() - 1;
        for (int i = 0; i < figures; i++) {
            if (i == 1) {
                sheet.put('.');
            }
            sheet.putFigure(exact.figureAt(first - i));
        }
        int power = exact.isZero() ? 0 : first - exact.scale();
        sheet.put('e');
        sheet.put(power < 0 ? '-' : '+');
        if (Math.abs(power) < 10) {
            sheet.put('0');
        }
        sheet.putNumber(Math.abs(power));
    }

    /** 10 to the n, for n from 0 to 18; never 0, so that it can always divide. */
    private static long tenTo(int n) {
        return n >= 0 && n < TENS.length ? TENS[n] : 1;
    }

    /** The paper. */
    private static final class Sheet {
        /** The longest text is a sign, 309 figures, a point and 1100 figures. */
        private static final int ROOM = 1440;

        private final byte[] bytes;
        private int length;

        Sheet() {
            bytes = new byte[ROOM];
            length = 0;
        }

        void clear() {
            length = 0;
        }

        int length() {
            return length;
        }

        void put(char letter) {
            if (length < bytes.length) {
                bytes[length] = (byte) letter;
                length++;
            }
        }

        void putText(String text) {
            for (int i = 0; i < text.length(); i++) {
                put(text.charAt(i));
            }
        }

        /** One figure, 0 to 15. */
        void putFigure(int figure) {
            put((char) (figure < 10 ? '0' + figure : 'a' + figure - 10));
        }

        /** A whole number of at most four figures: no power of a number has more. */
        void putNumber(int number) {
            if (number < 0) {
                put('-');
            }
            int size = Math.abs(number);
            for (int place = 3; place >= 0; place--) {
                long upTo = size / tenTo(place);
                if (upTo > 0 || place == 0) {
                    putFigure((int) (upTo % 10));
                }
            }
        }

        long eightFrom(int start) {
            long eight = 0;
            for (int i = 0; i < 8; i++) {
                long place = (long) start + i;
                if (place >= 0 && place < length) {
                    eight |= (bytes[(int) place] & 0xFFL) << (8 * i);
                }
            }
            return eight;
        }
    }

    /** A whole number of up to some thousand figures; its places count from 0, the ones. */
    private static final class Big {
        /** The greatest number is below 10 to the 1100. */
        private static final int ROOM = 124;
        private static final int LIMB_FIGURES = 9;
        private static final long BASE = 1000000000L;
        private static final int TWOS_AT_ONCE = 59;
        private static final int FIVES_AT_ONCE = 25;
        private static final long FIVE_TO_25 = 298023223876953125L;

        /** The lowest limb first; the highest one of the count is not 0. */
        private final long[] limbs;
        private int count;

        Big() {
            limbs = new long[ROOM];
            count = 0;
        }

        void setToOne() {
            count = 0;
            append(1);
        }

        void setToProduct(Big other, long factor) {
            count = 0;
            for (int i = 0; i < other.count; i++) {
                append(other.limbs[i]);
            }
            multiply(factor);
        }

        private void append(long limb) {
            if (count < limbs.length) {
                limbs[count] = limb;
                count++;
            }
        }

        boolean isZero() {
            return count == 0;
        }

        /** The factor is 0 to 10 to the 18: then no sum here comes near the end of a long. */
        void multiply(long factor) {
            if (factor == 0) {
                count = 0;
                return;
            }
            long high = factor / BASE;
            long low = factor % BASE;
            long below = 0;
            long carry = 0;
            for (int i = 0; i < count; i++) {
                long here = limbs[i];
                long sum = here * low + below * high + carry;
                carry = sum / BASE;
                limbs[i] = sum - carry * BASE;
                below = here;
            }
            long rest = below * high + carry;
            for (int i = 0; i < 2 && rest != 0; i++) {
                append(rest % BASE);
                rest /= BASE;
            }
        }

        void multiplyByTwos(int times) {
            for (int left = times; left > 0; left -= TWOS_AT_ONCE) {
                multiply(1L << Math.min(left, TWOS_AT_ONCE));
            }
        }

        void multiplyByFives(int times) {
            for (int left = times; left >= FIVES_AT_ONCE; left -= FIVES_AT_ONCE) {
                multiply(FIVE_TO_25);
            }
            long factor = 1;
            for (int i = 0; i < times % FIVES_AT_ONCE; i++) {
                factor *= 5;
            }
            multiply(factor);
        }

        void addTenTo(int place) {
            int start = place / LIMB_FIGURES;
            for (int i = count; i <= start; i++) {
                append(0);
            }
            long carry = tenTo(place % LIMB_FIGURES);
            for (int i = start; i < count && carry != 0; i++) {
                long sum = limbs[i] + carry;
                carry = sum / BASE;
                limbs[i] = sum - carry * BASE;
            }
            if (carry != 0) {
                append(carry);
            }
        }

        /** 0 has none. */
        int figureCount() {
            if (count == 0) {
                return 0;
            }
            int figures = 1;
            while (figures < LIMB_FIGURES && limbs[count - 1] >= tenTo(figures)) {
                figures++;
            }
            return (count - 1) * LIMB_FIGURES + figures;
        }

        private long limbAt(int i) {
            return i >= 0 && i < count ? limbs[i] : 0;
        }

        int figureAt(int place) {
            if (place < 0) {
                return 0;
            }
            long limb = limbAt(place / LIMB_FIGURES);
            return (int) (limb / tenTo(place % LIMB_FIGURES) % 10);
        }

        /** Whether a place below this one, which is not below 0, has another figure than 0. */
        boolean hasAnyBelow(int place) {
            int whole = place / LIMB_FIGURES;
            for (int i = 0; i < whole && i < count; i++) {
                if (limbs[i] != 0) {
                    return true;
                }
            }
            return limbAt(whole) % tenTo(place % LIMB_FIGURES) != 0;
        }

        /** The number without the places below this one; what is left is below 2 to the 63. */
        long from(int place) {
            int start = place / LIMB_FIGURES;
            int inLimb = place % LIMB_FIGURES;
            return limbAt(start) / tenTo(inLimb)
                    + limbAt(start + 1) * tenTo(LIMB_FIGURES - inLimb)
                    + limbAt(start + 2) * tenTo(2 * LIMB_FIGURES - inLimb);
        }
    }

    /** The exact size of a number, as a big whole number over 10 to the scale. */
    private static final class Exact {
        /** So many places more than needed: then the size always has more than 18 figures. */
        private static final int SPARE_PLACES = 18;

        /** A quarter of the distance between numbers: the bounds of rounding are multiples. */
        private final Big quarter;
        private final Big size;
        private int scale;

        Exact() {
            quarter = new Big();
            size = new Big();
            scale = 0;
        }

        void expand(long significand, int binaryPower) {
            int twos = significand == 0 ? 0 : binaryPower - 2;
            quarter.setToOne();
            if (twos >= 0) {
                quarter.multiplyByTwos(twos);
                scale = SPARE_PLACES;
            } else {
                quarter.multiplyByFives(-twos);
                scale = SPARE_PLACES - twos;
            }
            quarter.multiply(tenTo(SPARE_PLACES));
            size.setToProduct(quarter, 4 * significand);
        }

        void setToQuarters(Big big, long quarters) {
            big.setToProduct(quarter, quarters);
        }

        int scale() {
            return scale;
        }

        boolean isZero() {
            return size.isZero();
        }

        int figureCount() {
            return size.figureCount();
        }

        int figureAt(int place) {
            return size.figureAt(place);
        }

        boolean hasAnyBelow(int place) {
            return size.hasAnyBelow(place);
        }

        long from(int place) {
            return size.from(place);
        }

        /** Rounds, but leaves the places below this one as they were: nobody reads them. */
        void roundAt(int place, int way) {
            if (place > 0 && goesUp(place, way)) {
                size.addTenTo(place);
            }
        }

        private boolean goesUp(int place, int way) {
            if (way == 0) {
                return false;
            }
            if (way == 1) {
                return size.hasAnyBelow(place);
            }
            int dropped = size.figureAt(place - 1);
            if (dropped != 5) {
                return dropped > 5;
            }
            boolean isTie = !size.hasAnyBelow(place - 1);
            return way == 2 || !isTie || size.figureAt(place) % 2 == 1;
        }
    }

    /**
     * The shortest decimal. The size and the bounds between which decimals round to it are cut
     * to whole numbers, the size to 18 figures; a decimal of at most 17 figures is whole there,
     * so the cut numbers and whether something was cut off tell exactly on which side it is.
     */
    private static final class Shortest {
        private static final int KEPT_FIGURES = 18;

        private final Exact exact;
        private final Big bound;

        private long size;
        private boolean sizeIsCut;
        private long low;
        private boolean lowIsCut;
        private long high;
        private boolean highIsCut;
        private boolean boundsCount;

        private long coefficient;
        private int tens;

        Shortest() {
            exact = new Exact();
            bound = new Big();
        }

        long coefficient() {
            return coefficient;
        }

        int tens() {
            return tens;
        }

        /** The power of 10 that the first figure stands for. */
        int firstPower() {
            int figures = 1;
            while (figures < KEPT_FIGURES && coefficient >= tenTo(figures)) {
                figures++;
            }
            return tens + figures - 1;
        }

        /** The figure that stands for 10 to the power. */
        int figureAt(int power) {
            int place = power - tens;
            if (place < 0 || place > KEPT_FIGURES) {
                return 0;
            }
            return (int) (coefficient / tenTo(place) % 10);
        }

        /** The bits are those of a finite number that is not 0. */
        void find(long bits, boolean narrow) {
            long significand = significand(bits, narrow);
            exact.expand(significand, binaryPower(bits, narrow));
            int cut = Math.max(exact.figureCount() - KEPT_FIGURES, 0);
            size = exact.from(cut);
            sizeIsCut = exact.hasAnyBelow(cut);
            exact.setToQuarters(bound, 4 * significand - (isCloserBelow(bits, narrow) ? 1 : 2));
            low = bound.from(cut);
            lowIsCut = bound.hasAnyBelow(cut);
            exact.setToQuarters(bound, 4 * significand + 2);
            high = bound.from(cut);
            highIsCut = bound.hasAnyBelow(cut);
            boundsCount = (significand & 1) == 0;
            coefficient = nearestOfLeastLength();
            tens = cut - exact.scale();
            dropZeros();
        }

        private long nearestOfLeastLength() {
            for (int length = 2; length < KEPT_FIGURES; length++) {
                long found = nearestOfUnit(tenTo(KEPT_FIGURES - length));
                if (found != NONE) {
                    return found;
                }
            }
            return size;
        }

        /** The multiple of the unit that is nearest, of those that round to the size, or NONE. */
        private long nearestOfUnit(long unit) {
            long under = size - size % unit;
            long over = under + unit;
            boolean underFits = under > low || under == low && !lowIsCut && boundsCount;
            boolean overFits = over < high || over == high && (highIsCut || boundsCount);
            if (underFits && overFits) {
                return isNearerToOver(under, unit) ? over : under;
            }
            if (underFits) {
                return under;
            }
            return overFits ? over : NONE;
        }

        private boolean isNearerToOver(long under, long unit) {
            long middle = under + unit / 2;
            if (size != middle || sizeIsCut) {
                return size >= middle;
            }
            return under / unit % 2 == 1;
        }

        private void dropZeros() {
            for (int i = 0; i < KEPT_FIGURES && coefficient % 10 == 0; i++) {
                coefficient /= 10;
                tens++;
            }
        }
    }
}
