import java.math.BigDecimal;
import java.math.BigInteger;
import java.math.MathContext;
import java.math.RoundingMode;

/** The answers that are due, worked out from the document's words with the Java library. */
final class Due {
    private static final RoundingMode[] WAYS = {
        RoundingMode.DOWN, RoundingMode.UP, RoundingMode.HALF_UP, RoundingMode.HALF_EVEN
    };

    private Due() {}

    static BigDecimal size(long bits, boolean narrow) {
        long size = bits & (Numbers.signBit(narrow) - 1);
        return new BigDecimal(
                narrow ? Float.intBitsToFloat((int) size) : Double.longBitsToDouble(size));
    }

    static String sign(long bits, boolean narrow) {
        return (bits & Numbers.signBit(narrow)) != 0 ? "-" : "";
    }

    private static boolean roundsTo(BigDecimal decimal, long bits, boolean narrow) {
        long size = bits & (Numbers.signBit(narrow) - 1);
        String text = decimal.toString();
        return size
                == (narrow
                        ? Check.narrow(Float.parseFloat(text))
                        : Check.wide(Double.parseDouble(text)));
    }

    /** The shortest decimal, without 0 at its end; the number is finite and not 0. */
    static BigDecimal shortest(long bits, boolean narrow) {
        BigDecimal x = size(bits, narrow);
        for (int length = 1; length <= 20; length++) {
            if (ofLength(x, length, bits, narrow) != null) {
                return ofLength(x, Math.max(length, 2), bits, narrow).stripTrailingZeros();
            }
        }
        throw new IllegalStateException("no decimal rounds to " + x);
    }

    private static BigDecimal ofLength(BigDecimal x, int length, long bits, boolean narrow) {
        BigDecimal under = x.round(new MathContext(length, RoundingMode.DOWN));
        BigDecimal over = x.round(new MathContext(length, RoundingMode.UP));
        boolean underFits = roundsTo(under, bits, narrow);
        boolean overFits = roundsTo(over, bits, narrow);
        if (!underFits || !overFits) {
            return underFits ? under : overFits ? over : null;
        }
        int nearer = x.subtract(under).compareTo(over.subtract(x));
        if (nearer != 0) {
            return nearer < 0 ? under : over;
        }
        return isEven(under, length) ? under : over;
    }

    private static boolean isEven(BigDecimal decimal, int length) {
        int first = decimal.precision() - decimal.scale() - 1;
        BigInteger c = decimal.movePointLeft(first - length + 1).toBigIntegerExact();
        return !c.testBit(0);
    }

    static String print(long bits, boolean narrow) {
        String sign = sign(bits, narrow);
        BigDecimal x = size(bits, narrow);
        if (x.signum() == 0) {
            return sign + "0.0";
        }
        BigDecimal decimal = shortest(bits, narrow);
        if (x.compareTo(new BigDecimal("1e7")) < 0 && x.compareTo(new BigDecimal("1e-3")) >= 0) {
            String plain = decimal.toPlainString();
            return sign + plain + (plain.indexOf('.') < 0 ? ".0" : "");
        }
        String figures = decimal.unscaledValue().toString();
        String others = figures.length() == 1 ? "0" : figures.substring(1);
        int power = figures.length() - 1 - decimal.scale();
        return sign + figures.charAt(0) + "." + others + "E" + power;
    }

    static String fixed(long bits, boolean narrow, int places, int way) {
        BigDecimal rounded = size(bits, narrow).setScale(places, WAYS[way]);
        return sign(bits, narrow) + rounded.toPlainString();
    }

    static String scientific(long bits, boolean narrow, int figures, int way) {
        BigDecimal rounded = size(bits, narrow).round(new MathContext(figures, WAYS[way]));
        int power = 0;
        if (rounded.signum() != 0) {
            power = rounded.precision() - rounded.scale() - 1;
        }
        BigDecimal c = rounded.movePointLeft(power).setScale(figures - 1);
        String last = Math.abs(power) < 10 ? "0" + Math.abs(power) : "" + Math.abs(power);
        return sign(bits, narrow) + c.toPlainString() + "e" + (power < 0 ? "-" : "+") + last;
    }
}
