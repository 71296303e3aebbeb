import java.math.BigDecimal;
import java.util.LinkedHashSet;
import java.util.Set;

/** The numbers that the tests go through: the edges of a format, and some from everywhere. */
final class Numbers {
    static final long WIDE_INFINITY = 0x7FF0000000000000L;
    static final long NARROW_INFINITY = 0x7F800000L;

    private Numbers() {}

    static long signBit(boolean narrow) {
        return narrow ? 0x80000000L : Long.MIN_VALUE;
    }

    static long infinity(boolean narrow) {
        return narrow ? NARROW_INFINITY : WIDE_INFINITY;
    }

    static long[] notFinite(boolean narrow) {
        long infinity = infinity(narrow);
        long sign = signBit(narrow);
        return new long[] {
            infinity, sign | infinity, infinity + 1, sign | (infinity + 1), sign - 1, sign | (sign - 1)
        };
    }

    /** Bits of finite numbers of both signs. */
    static Set<Long> finite(boolean narrow, int random) {
        Set<Long> sizes = new LinkedHashSet<>();
        for (long i = 0; i <= 40; i++) {
            sizes.add(i);
            sizes.add(infinity(narrow) - 1 - i);
        }
        addPowersOfTwo(sizes, narrow);
        addPowersOfTen(sizes, narrow);
        addOrdinary(sizes, narrow);
        addRandom(sizes, narrow, random);
        Set<Long> all = new LinkedHashSet<>();
        boolean minus = false;
        for (long size : sizes) {
            if (size >= 0 && size < infinity(narrow)) {
                all.add(minus ? signBit(narrow) | size : size);
                minus = !minus;
            }
        }
        all.add(0L);
        all.add(signBit(narrow));
        return all;
    }

    private static void addAround(Set<Long> sizes, long size) {
        for (long i = -2; i <= 2; i++) {
            sizes.add(size + i);
        }
    }

    private static void addPowersOfTwo(Set<Long> sizes, boolean narrow) {
        int bits = narrow ? 23 : 52;
        for (int i = 0; i < bits; i++) {
            addAround(sizes, 1L << i);
        }
        for (long exponent = 1; exponent < (narrow ? 255 : 2047); exponent++) {
            addAround(sizes, exponent << bits);
        }
    }

    private static void addPowersOfTen(Set<Long> sizes, boolean narrow) {
        for (int i = narrow ? -45 : -323; i <= (narrow ? 38 : 308); i++) {
            addAround(sizes, sizeOf(new BigDecimal("1e" + i), narrow));
            addAround(sizes, sizeOf(new BigDecimal("5e" + i), narrow));
        }
    }

    private static void addOrdinary(Set<Long> sizes, boolean narrow) {
        for (int i = 0; i < 400; i++) {
            sizes.add(sizeOf(new BigDecimal(i).divide(new BigDecimal(8)), narrow));
            sizes.add(sizeOf(new BigDecimal(i).movePointLeft(2), narrow));
            // From here on numbers are a quarter apart: two decimals may be equally near.
            sizes.add(sizeOf(new BigDecimal((narrow ? 0x1p21 : 0x1p50) + i / 4.0), narrow));
        }
    }

    private static void addRandom(Set<Long> sizes, boolean narrow, int count) {
        long seed = 20261115L;
        for (int i = 0; i < count; i++) {
            seed = seed * 6364136223846793005L + 1442695040888963407L;
            long mixed = (seed ^ (seed >>> 29)) * 0xBF58476D1CE4E5B9L;
            sizes.add((mixed ^ (mixed >>> 32)) >>> (narrow ? 33 : 1));
        }
    }

    private static long sizeOf(BigDecimal value, boolean narrow) {
        return narrow ? Check.narrow(value.floatValue()) : Check.wide(value.doubleValue());
    }
}
