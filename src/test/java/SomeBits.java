import java.util.Random;

/** Bits for tests: edges of each form, numbers of all sizes, and now and then what are no bits of it. */
final class SomeBits {
    private static final long[] WHOLES = {0, 1, -1, 7, 60, -60, 16777217, 33554435, Integer.MAX_VALUE,
        Integer.MIN_VALUE, 1L << 31, -(1L << 31) - 1};
    private static final long[] LONGS = {0, 1, -1, 60, 16777217, 1L << 32, (1L << 53) + 1, (1L << 53) + 3,
        9223371761976868863L, 9223371761976868864L, Long.MAX_VALUE, Long.MIN_VALUE, Long.MAX_VALUE - 512};
    private static final float[] SINGLES = {0f, -0f, 1f, -1f, 0.5f, 60f, -360f, 0.1f, Float.MIN_VALUE, -Float.MIN_VALUE,
        Float.MIN_NORMAL, Math.nextDown(Float.MIN_NORMAL), Float.MAX_VALUE, -Float.MAX_VALUE, 0x1p31f, -0x1p31f, 0x1p63f,
        -0x1p63f, 0x1p127f, 2e38f, Float.POSITIVE_INFINITY, Float.NEGATIVE_INFINITY, Float.NaN};
    private static final double[] DOUBLES = {0, -0.0, 1, -1, 0.5, 60, -360, 0.1, Double.MIN_VALUE, -Double.MIN_VALUE,
        Double.MIN_NORMAL, Math.nextDown(Double.MIN_NORMAL), Double.MAX_VALUE, -Double.MAX_VALUE, 0x1p31, -0x1p31,
        2147483647.5, 0x1p63, -0x1p63, 0x1p1023, Float.MAX_VALUE, 0x1.ffffffp127, 0x1.fffffefffffffp127,
        Float.MIN_VALUE, 0x1p-150, -0x1p-150, 0x1.0000000000001p-150, 0x3p-150, 0x1.000001p0, 0x1.000003p0, 1e300,
        Double.POSITIVE_INFINITY, Double.NEGATIVE_INFINITY, Double.NaN};

    private SomeBits() {
    }

    static long of(Random random, int form) {
        switch (random.nextInt(8)) {
            case 0:
                return anyBits(random, form);
            case 1:
            case 2:
                return edge(random, form);
            case 3:
                return small(random, form);
            default:
                return ofAnySize(random, form);
        }
    }

    /** Another number of about the same size: its fraction, sign or exponent are a little different. */
    static long near(Random random, int form, long bits) {
        if (form < 2) {
            long other = bits + random.nextInt(5) - 2;
            return random.nextBoolean() ? other : -other;
        }
        int fraction = form == 2 ? 23 : 52;
        long other = bits + ((long) (random.nextInt(121) - 60) << fraction);
        if (random.nextBoolean()) {
            other ^= 1L << random.nextInt(fraction);
        }
        if (random.nextBoolean()) {
            other = other & -1L << random.nextInt(fraction);
        }
        if (random.nextBoolean()) {
            other ^= form == 2 ? 0xffffffff80000000L : Long.MIN_VALUE;
        }
        return form == 2 ? (int) other : other;
    }

    private static long anyBits(Random random, int form) {
        boolean narrow = (form == 0 || form == 2) && random.nextInt(4) != 0;
        return narrow ? random.nextInt() : random.nextLong();
    }

    private static long edge(Random random, int form) {
        switch (form) {
            case 0:
                return WHOLES[random.nextInt(WHOLES.length)];
            case 1:
                return LONGS[random.nextInt(LONGS.length)];
            case 2:
                return Check.single(SINGLES[random.nextInt(SINGLES.length)]);
            default:
                return Check.real(DOUBLES[random.nextInt(DOUBLES.length)]);
        }
    }

    private static long small(Random random, int form) {
        int number = random.nextInt(401) - 200;
        switch (form) {
            case 2:
                return Check.single(number / 4f);
            case 3:
                return Check.real(number / 4.0);
            default:
                return number;
        }
    }

    private static long ofAnySize(Random random, int form) {
        switch (form) {
            case 0:
                return random.nextInt() >> random.nextInt(32);
            case 1:
                return random.nextLong() >> random.nextInt(64);
            case 2:
                return random.nextInt() & 0xffffffffbfffffffL;
            default:
                return random.nextBoolean() ? nearASingle(random) : random.nextLong() & 0xbfffffffffffffffL;
        }
    }

    /** Doubles half way between two singles, or next to that, are where turning them is hard. */
    private static long nearASingle(Random random) {
        float single = Float.intBitsToFloat(random.nextInt() & 0xbfffffff);
        double between = (single + (double) Math.nextUp(single)) / 2;
        switch (random.nextInt(3)) {
            case 0:
                return Check.real(between);
            case 1:
                return Check.real(Math.nextUp(between));
            default:
                return Check.real(Math.nextDown(between));
        }
    }
}
