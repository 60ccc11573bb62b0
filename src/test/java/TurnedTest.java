/** TO TURN a number into another FORM, clause by clause, and promise 2 (turned). */
final class TurnedTest {
    private static final Check CHECK = new Check();
    private static final Twins TWINS = new Twins(CHECK);
    private static final double HALF_A_STEP = Math.ulp(Float.MAX_VALUE) / 2.0;
    private static final double HALF_THE_LEAST = Float.MIN_VALUE / 2.0;

    public static void main(String[] args) {
        wholesAreThemselves();
        integersToTheNearestSingle();
        integersBetweenTwoSingles();
        longsToTheNearestDouble();
        longsBetweenTwoDoubles();
        longsToTheirLowestBits();
        singlesAreThemselves();
        doublesToTheNearestSingle();
        doublesBetweenTwoSingles();
        doublesAboveTheGreatestSingle();
        doublesBelowTheLeastSingle();
        realsAreCutTowardZero();
        realsBeyondAnEnd();
        endlessOnesAreTheEnds();
        intoItsOwnForm();
        turnedRefuses();
        CHECK.done();
    }

    private static void due(int form, int to, long bits, long want) {
        MeterHall hall = new MeterHall();
        hall.turned(9, 9, 0);
        CHECK.due("turned(" + form + ", " + to + ", " + bits + ")", hall.turned(form, to, bits), want);
        CHECK.due("finding() behind it", hall.finding(), 0);
    }

    /** The same with the sign changed; no clause here treats the two signs in different ways. */
    private static void dueWithBothSigns(double number, float want) {
        due(3, 2, Check.real(number), Check.single(want));
        due(3, 2, Check.real(-number), Check.single(-want));
    }

    private static void wholesAreThemselves() {
        CHECK.sentence("WHOLE to LONG, DOUBLE: itself");
        int[] wholes = {0, 1, -1, 16777217, -16777217, Integer.MAX_VALUE, Integer.MIN_VALUE, Integer.MAX_VALUE - 1};
        for (int whole : wholes) {
            due(0, 1, whole, whole);
            due(0, 3, whole, Check.real(whole));
        }
    }

    private static void integersToTheNearestSingle() {
        CHECK.sentence("WHOLE, LONG to SINGLE: the nearest one");
        int[] wholes = {0, 1, -1, 16777215, 16777216, 33554433, 33554435, 67108867, 67108869, -67108869,
            Integer.MAX_VALUE, Integer.MIN_VALUE, 2147483583, 2147483585};
        float[] nearest = {0f, 1f, -1f, 16777215f, 16777216f, 33554432f, 33554436f, 67108864f, 67108872f, -67108872f,
            0x1p31f, -0x1p31f, 0x1.fffffep30f, 0x1p31f};
        for (int k = 0; k < wholes.length; k++) {
            due(0, 2, wholes[k], Check.single(nearest[k]));
            due(1, 2, wholes[k], Check.single(nearest[k]));
        }
        due(1, 2, Long.MAX_VALUE, Check.single(0x1p63f));
        due(1, 2, Long.MIN_VALUE, Check.single(-0x1p63f));
        due(1, 2, Long.MIN_VALUE + 1, Check.single(-0x1p63f));
        due(1, 2, 0x7fffffbfffffffffL, Check.single(0x1.fffffep62f));
        due(1, 2, 0x0080000080000001L, Check.single(0x1.000002p55f));
    }

    private static void integersBetweenTwoSingles() {
        CHECK.sentence("WHOLE, LONG to SINGLE: of two the one whose last bit is 0");
        int[] wholes = {16777217, 16777219, -16777217, -16777219, 33554434, 33554438, 2147483584};
        float[] even = {16777216f, 16777220f, -16777216f, -16777220f, 33554432f, 33554440f, 0x1p31f};
        for (int k = 0; k < wholes.length; k++) {
            due(0, 2, wholes[k], Check.single(even[k]));
            due(1, 2, wholes[k], Check.single(even[k]));
        }
        due(1, 2, 0x7fffffc000000000L, Check.single(0x1p63f));
        due(1, 2, 0x0080000080000000L, Check.single(0x1p55f));
        due(1, 2, 0x0080000180000000L, Check.single(0x1.000004p55f));
    }

    private static void longsToTheNearestDouble() {
        CHECK.sentence("LONG to DOUBLE: the nearest one");
        due(1, 3, 0, 0);
        due(1, 3, -1, Check.real(-1));
        due(1, 3, (1L << 53) - 1, Check.real(0x1.fffffffffffffp52));
        due(1, 3, 1L << 53, Check.real(0x1p53));
        due(1, 3, (1L << 54) + 1, Check.real(0x1p54));
        due(1, 3, (1L << 54) + 3, Check.real(0x1.0000000000001p54));
        due(1, 3, -(1L << 54) - 3, Check.real(-0x1.0000000000001p54));
        due(1, 3, Long.MAX_VALUE, Check.real(0x1p63));
        due(1, 3, Long.MIN_VALUE, Check.real(-0x1p63));
        due(1, 3, Long.MIN_VALUE + 1, Check.real(-0x1p63));
        due(1, 3, Long.MAX_VALUE - 512, Check.real(0x1.fffffffffffffp62));
        due(1, 3, Long.MIN_VALUE + 513, Check.real(-0x1.fffffffffffffp62));
    }

    private static void longsBetweenTwoDoubles() {
        CHECK.sentence("LONG to DOUBLE: of two the one whose last bit is 0");
        due(1, 3, (1L << 53) + 1, Check.real(0x1p53));
        due(1, 3, (1L << 53) + 3, Check.real(0x1.0000000000002p53));
        due(1, 3, -(1L << 53) - 1, Check.real(-0x1p53));
        due(1, 3, -(1L << 53) - 3, Check.real(-0x1.0000000000002p53));
        due(1, 3, (1L << 54) - 1, Check.real(0x1p54));
        due(1, 3, Long.MAX_VALUE - 511, Check.real(0x1p63));
    }

    private static void longsToTheirLowestBits() {
        CHECK.sentence("LONG to WHOLE: its lowest 32 bits");
        due(1, 0, 1L << 31, Integer.MIN_VALUE);
        due(1, 0, (1L << 31) - 1, Integer.MAX_VALUE);
        due(1, 0, 1L << 32, 0);
        due(1, 0, (1L << 32) + 5, 5);
        due(1, 0, 0xffffffffL, -1);
        due(1, 0, -(1L << 31), Integer.MIN_VALUE);
        due(1, 0, -(1L << 31) - 1, Integer.MAX_VALUE);
        due(1, 0, Long.MAX_VALUE, -1);
        due(1, 0, Long.MIN_VALUE, 0);
    }

    private static void singlesAreThemselves() {
        CHECK.sentence("SINGLE to DOUBLE: itself");
        float[] singles = {0f, 1f, 0.1f, Float.MIN_VALUE, 3 * Float.MIN_VALUE, Math.nextDown(Float.MIN_NORMAL),
            Float.MIN_NORMAL, Float.MAX_VALUE, Float.POSITIVE_INFINITY};
        for (float single : singles) {
            due(2, 3, Check.single(single), Check.real(single));
            due(2, 3, Check.single(-single), Check.real(-single));
        }
    }

    private static void doublesToTheNearestSingle() {
        CHECK.sentence("DOUBLE to SINGLE: the nearest one");
        dueWithBothSigns(0, 0f);
        dueWithBothSigns(0.1, 0.1f);
        dueWithBothSigns(Math.nextUp(0x1.000001p0), 0x1.000002p0f);
        dueWithBothSigns(Math.nextDown(0x1.000001p0), 1f);
        dueWithBothSigns(Math.nextUp(0x1.000003p0), 0x1.000004p0f);
        dueWithBothSigns(Math.nextDown(0x1.000003p0), 0x1.000002p0f);
        dueWithBothSigns(Math.nextDown(Float.MIN_NORMAL - HALF_THE_LEAST), Math.nextDown(Float.MIN_NORMAL));
        dueWithBothSigns(Math.nextUp(Float.MIN_NORMAL - HALF_THE_LEAST), Float.MIN_NORMAL);
        dueWithBothSigns(Math.nextUp(2 * HALF_THE_LEAST), Float.MIN_VALUE);
        dueWithBothSigns(Math.nextDown(3 * HALF_THE_LEAST), Float.MIN_VALUE);
    }

    private static void doublesBetweenTwoSingles() {
        CHECK.sentence("DOUBLE to SINGLE: the nearest one (likewise: of two the one whose last bit is 0)");
        dueWithBothSigns(0x1.000001p0, 1f);
        dueWithBothSigns(0x1.000003p0, 0x1.000004p0f);
        dueWithBothSigns(0x1.ffffffp0, 2f);
        dueWithBothSigns(3 * HALF_THE_LEAST, 2 * Float.MIN_VALUE);
        dueWithBothSigns(5 * HALF_THE_LEAST, 2 * Float.MIN_VALUE);
        dueWithBothSigns(Float.MIN_NORMAL - HALF_THE_LEAST, Float.MIN_NORMAL);
        dueWithBothSigns(Float.MIN_NORMAL + HALF_THE_LEAST, Float.MIN_NORMAL);
    }

    private static void doublesAboveTheGreatestSingle() {
        CHECK.sentence("what is half a step or more above the greatest is ENDLESS");
        double half = Float.MAX_VALUE + HALF_A_STEP;
        dueWithBothSigns(Float.MAX_VALUE, Float.MAX_VALUE);
        dueWithBothSigns(Math.nextUp((double) Float.MAX_VALUE), Float.MAX_VALUE);
        dueWithBothSigns(Math.nextDown(half), Float.MAX_VALUE);
        dueWithBothSigns(half, Float.POSITIVE_INFINITY);
        dueWithBothSigns(Math.nextUp(half), Float.POSITIVE_INFINITY);
        dueWithBothSigns(0x1p128, Float.POSITIVE_INFINITY);
        dueWithBothSigns(0x1.8p128, Float.POSITIVE_INFINITY);
        dueWithBothSigns(Double.MAX_VALUE, Float.POSITIVE_INFINITY);
        dueWithBothSigns(Double.POSITIVE_INFINITY, Float.POSITIVE_INFINITY);
    }

    private static void doublesBelowTheLeastSingle() {
        CHECK.sentence("what is less than half of the least, or just that, is 0.0, with its sign");
        dueWithBothSigns(Double.MIN_VALUE, 0f);
        dueWithBothSigns(Double.MIN_NORMAL, 0f);
        dueWithBothSigns(1e-300, 0f);
        dueWithBothSigns(HALF_THE_LEAST / 2, 0f);
        dueWithBothSigns(Math.nextDown(HALF_THE_LEAST), 0f);
        dueWithBothSigns(HALF_THE_LEAST, 0f);
        dueWithBothSigns(Math.nextUp(HALF_THE_LEAST), Float.MIN_VALUE);
        dueWithBothSigns(2 * HALF_THE_LEAST, Float.MIN_VALUE);
    }

    private static void realsAreCutTowardZero() {
        CHECK.sentence("SINGLE, DOUBLE to WHOLE, LONG: cut toward 0");
        float[] numbers = {0f, 0.25f, 0.9999999f, 1f, 1.5f, 2.75f, 8388607.5f, 16777216f, Float.MIN_VALUE};
        long[] cut = {0, 0, 0, 1, 1, 2, 8388607, 16777216, 0};
        for (int k = 0; k < numbers.length; k++) {
            for (int to = 0; to < 2; to++) {
                due(2, to, Check.single(numbers[k]), cut[k]);
                due(2, to, Check.single(-numbers[k]), -cut[k]);
                due(3, to, Check.real(numbers[k]), cut[k]);
                due(3, to, Check.real(-numbers[k]), -cut[k]);
            }
        }
        due(3, 0, Check.real(2147483646.9), 2147483646);
        due(3, 1, Check.real(2147483648.5), 2147483648L);
        due(3, 1, Check.real(0x1.fffffffffffffp51), (1L << 52) - 1);
        due(3, 1, Check.real(-0x1.fffffffffffffp52), -(1L << 53) + 1);
        due(3, 1, Check.real(Double.MIN_VALUE), 0);
    }

    private static void realsBeyondAnEnd() {
        CHECK.sentence("SINGLE, DOUBLE to WHOLE, LONG: what lies beyond an end is that end");
        due(3, 0, Check.real(2147483647.0), Integer.MAX_VALUE);
        due(3, 0, Check.real(2147483647.5), Integer.MAX_VALUE);
        due(3, 0, Check.real(2147483648.0), Integer.MAX_VALUE);
        due(3, 0, Check.real(-2147483647.5), -Integer.MAX_VALUE);
        due(3, 0, Check.real(-2147483648.0), Integer.MIN_VALUE);
        due(3, 0, Check.real(-2147483648.5), Integer.MIN_VALUE);
        due(3, 0, Check.real(-2147483649.0), Integer.MIN_VALUE);
        due(3, 0, Check.real(4294967296.0), Integer.MAX_VALUE);
        due(3, 0, Check.real(1e300), Integer.MAX_VALUE);
        due(2, 0, Check.single(0x1.fffffep30f), 2147483520);
        due(2, 0, Check.single(0x1p31f), Integer.MAX_VALUE);
        due(2, 0, Check.single(-0x1p31f), Integer.MIN_VALUE);
        due(2, 0, Check.single(-Float.MAX_VALUE), Integer.MIN_VALUE);
        for (int form = 2; form < 4; form++) {
            due(form, 1, form == 2 ? Check.single(0x1p63f) : Check.real(0x1p63), Long.MAX_VALUE);
            due(form, 1, form == 2 ? Check.single(-0x1p63f) : Check.real(-0x1p63), Long.MIN_VALUE);
            due(form, 1, form == 2 ? Check.single(0x1p64f) : Check.real(0x1p64), Long.MAX_VALUE);
            due(form, 1, form == 2 ? Check.single(-0x1p100f) : Check.real(-0x1p100), Long.MIN_VALUE);
        }
        due(2, 1, Check.single(0x1.fffffep62f), 0x7fffff8000000000L);
        due(3, 1, Check.real(0x1.fffffffffffffp62), 0x7ffffffffffffc00L);
        due(3, 1, Check.real(-0x1.fffffffffffffp62), -0x7ffffffffffffc00L);
        due(3, 1, Check.real(-0x1.0000000000001p63), Long.MIN_VALUE);
    }

    private static void endlessOnesAreTheEnds() {
        CHECK.sentence("what lies beyond an end is that end (ENDLESS, too)");
        for (int form = 2; form < 4; form++) {
            long above = form == 2 ? Check.single(Float.POSITIVE_INFINITY) : Check.real(Double.POSITIVE_INFINITY);
            long below = form == 2 ? Check.single(Float.NEGATIVE_INFINITY) : Check.real(Double.NEGATIVE_INFINITY);
            due(form, 0, above, Integer.MAX_VALUE);
            due(form, 0, below, Integer.MIN_VALUE);
            due(form, 1, above, Long.MAX_VALUE);
            due(form, 1, below, Long.MIN_VALUE);
        }
    }

    private static void intoItsOwnForm() {
        CHECK.sentence("TO TURN a number into another FORM, as casts have it");
        due(0, 0, Integer.MIN_VALUE, Integer.MIN_VALUE);
        due(1, 1, Long.MIN_VALUE, Long.MIN_VALUE);
        due(2, 2, Check.single(-0f), Check.single(-0f));
        due(2, 2, 1, 1);
        due(3, 3, Check.real(-0.0), Check.real(-0.0));
        due(3, 3, Check.real(-Double.MAX_VALUE), Check.real(-Double.MAX_VALUE));
    }

    /** BitsTest has what are no BITS. */
    private static void turnedRefuses() {
        CHECK.sentence("Promise 2, 0: OUTSIDE (finding() tells -2): a FORM, BITS.");
        int[] wrong = {-1, 4, Integer.MIN_VALUE, Integer.MAX_VALUE};
        for (int form : wrong) {
            TWINS.refusedBits("turned(" + form + ", 0, 5)", Halls::furnished, -2, hall -> hall.turned(form, 0, 5));
            TWINS.refusedBits("turned(0, " + form + ", 5)", Halls::furnished, -2, hall -> hall.turned(0, form, 5));
        }
        TWINS.refusedBits("turned(0, 1, 1L << 31)", Halls::furnished, -2, hall -> hall.turned(0, 1, 1L << 31));
        TWINS.refusedBits("turned(2, 1, NaN)", Halls::furnished, -2, hall -> hall.turned(2, 1, Check.single(Float.NaN)));
    }
}
