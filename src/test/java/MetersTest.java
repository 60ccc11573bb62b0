/** The document's sentences on METERS, and promises 1 (a new object), 5 (meter), 6 (count), 7 (carry), 8 (value). */
final class MetersTest {
    private static final Check CHECK = new Check();
    private static final Twins TWINS = new Twins(CHECK);
    private static final int UNKNOWN = MeterHall.UNKNOWN, OUTSIDE = MeterHall.OUTSIDE, FULL = MeterHall.FULL;
    private static final int GREAT = -46;
    private static final int[] NO_METERS = {-1, 4, 23, 24, MeterHall.NONE, Integer.MIN_VALUE, Integer.MAX_VALUE};

    public static void main(String[] args) {
        nothingIsThereAtFirst();
        metersAreNumberedAsTheyAreMade();
        aLimitIsNotZero();
        aLimitIsNotEndless();
        aLimitMayBeAnyOther();
        meterRefusesFormsAndBits();
        meterIsFull();
        aValueIsZeroAtFirst();
        wholesAndLongsWrap();
        sumsAreRoundedToTheNearest();
        sumsBetweenTwo();
        theRestByTheLimitIsTheValue();
        theValueKeepsTheSignOfZero();
        countIsUnknown();
        countIsOutside();
        countIsGreat();
        countIsNotGreatJustBelow();
        carryTurnsTheValue();
        carryToTheSameMeter();
        carryIsUnknown();
        carryIsGreatInTurning();
        carryIsGreatInTheSum();
        valueTellsAllFour();
        aMeterShowsALong();
        valueIsUnknownOrOutside();
        CHECK.done();
    }

    private static void nothingIsThereAtFirst() {
        CHECK.sentence("Promise 1: Nothing is there.");
        MeterHall hall = new MeterHall();
        for (int what = 0; what <= 8; what++) {
            CHECK.due("told(" + what + ")", hall.told(what), 0);
        }
        for (int track = 0; track < 12; track++) {
            CHECK.due("form(" + track + ")", hall.form(track), MeterHall.NONE);
        }
        CHECK.due("finding()", hall.finding(), 0);
        CHECK.due("count(0, 1)", hall.count(0, 1), UNKNOWN);
        CHECK.due("many(0, 0)", hall.many(0, 0), UNKNOWN);
        CHECK.due("clear()", hall.clear(), 0);
        MeterHall other = new MeterHall();
        other.meter(0, 5);
        other.track(0, 2, 3);
        other.rack(0, 3);
        CHECK.due("told(0) of one beside it", hall.told(0), 0);
        CHECK.due("form(0) of one beside it", hall.form(0), MeterHall.NONE);
        CHECK.due("told(2) of one beside it", hall.told(2), 0);
    }

    private static void metersAreNumberedAsTheyAreMade() {
        CHECK.sentence("METERS 0 .. 23, as they are made; Promise 5: A METER: its number.");
        MeterHall hall = new MeterHall();
        for (int k = 0; k < 24; k++) {
            CHECK.due("meter " + k, hall.meter(k % 4, Halls.LIMITS[k % 4]), k);
            CHECK.due("told(0)", hall.told(0), k + 1);
        }
        for (int k = 0; k < 24; k++) {
            CHECK.due("value(" + k + ", 1)", hall.value(k, 1), Halls.LIMITS[k % 4]);
            CHECK.due("value(" + k + ", 3)", hall.value(k, 3), k % 4);
        }
    }

    private static void meterIsOutside(int form, long limit) {
        String call = "meter(" + form + ", " + limit + ")";
        TWINS.refused(call, Halls::furnished, OUTSIDE, hall -> hall.meter(form, limit));
    }

    private static void aLimitIsNotZero() {
        CHECK.sentence("a LIMIT (a number of it, not 0); Promise 5, OUTSIDE: LIMIT");
        meterIsOutside(0, 0);
        meterIsOutside(1, 0);
        meterIsOutside(2, 0);
        meterIsOutside(2, Check.single(-0f));
        meterIsOutside(3, 0);
        meterIsOutside(3, Check.real(-0.0));
    }

    private static void aLimitIsNotEndless() {
        CHECK.sentence("a LIMIT (a number of it, not ENDLESS); Promise 5, OUTSIDE: LIMIT");
        meterIsOutside(2, Check.single(Float.POSITIVE_INFINITY));
        meterIsOutside(2, Check.single(Float.NEGATIVE_INFINITY));
        meterIsOutside(3, Check.real(Double.POSITIVE_INFINITY));
        meterIsOutside(3, Check.real(Double.NEGATIVE_INFINITY));
    }

    private static void aLimitMayBeAnyOther() {
        CHECK.sentence("a LIMIT (a number of it, not 0, not ENDLESS)");
        long[][] limits = {{0, -1}, {0, Integer.MIN_VALUE}, {0, Integer.MAX_VALUE}, {1, Long.MIN_VALUE},
            {1, Long.MAX_VALUE}, {1, 1L << 31}, {2, Check.single(Float.MIN_VALUE)}, {2, Check.single(-Float.MIN_VALUE)},
            {2, Check.single(-Float.MAX_VALUE)}, {3, Check.real(Double.MIN_VALUE)}, {3, Check.real(-Double.MIN_VALUE)},
            {3, Check.real(Double.MAX_VALUE)}};
        MeterHall hall = new MeterHall();
        for (int k = 0; k < limits.length; k++) {
            String call = "meter(" + limits[k][0] + ", " + limits[k][1] + ")";
            CHECK.due(call, hall.meter((int) limits[k][0], limits[k][1]), k);
            CHECK.due("its LIMIT", hall.value(k, 1), limits[k][1]);
        }
    }

    /** BitsTest has more of what are no BITS. */
    private static void meterRefusesFormsAndBits() {
        CHECK.sentence("Promise 5, OUTSIDE: FORM, LIMIT");
        meterIsOutside(-1, 5);
        meterIsOutside(4, 5);
        meterIsOutside(Integer.MAX_VALUE, 5);
        meterIsOutside(0, 1L << 31);
        meterIsOutside(2, 1L << 31);
        meterIsOutside(2, Check.single(Float.NaN));
        meterIsOutside(3, Check.real(Double.NaN));
    }

    private static void meterIsFull() {
        CHECK.sentence("Promise 5: FULL");
        TWINS.refused("a 25th meter", Halls::fullOfMeters, FULL, hall -> hall.meter(0, 5));
        TWINS.refused("a 25th meter of DOUBLES", Halls::fullOfMeters, FULL, hall -> hall.meter(3, Check.real(5)));
        CHECK.sentence("OUTSIDE, FULL: the first of these that fits");
        TWINS.refused("a 25th meter of LIMIT 0", Halls::fullOfMeters, OUTSIDE, hall -> hall.meter(0, 0));
        TWINS.refused("a 25th meter of FORM 4", Halls::fullOfMeters, OUTSIDE, hall -> hall.meter(4, 5));
    }

    private static void aValueIsZeroAtFirst() {
        CHECK.sentence("a VALUE (0, 0.0 at first)");
        MeterHall hall = new MeterHall();
        for (int form = 0; form < 4; form++) {
            hall.meter(form, form == 2 ? Check.single(-5f) : form == 3 ? Check.real(-5) : -5);
            CHECK.due("VALUE of FORM " + form, hall.value(form, 0), 0);
            CHECK.due("what it SHOWS", hall.value(form, 2), 0);
        }
    }

    /** A new METER counts all of these; the last sum and REST is its VALUE then. */
    private static void dueValue(int form, long limit, long want, long... counted) {
        MeterHall hall = new MeterHall();
        hall.meter(form, limit);
        for (long x : counted) {
            CHECK.due("count(0, " + x + ") under " + limit, hall.count(0, x), 1);
        }
        CHECK.due("VALUE behind it", hall.value(0, 0), want);
    }

    private static void dueSingle(float limit, float want, float... counted) {
        long[] bits = new long[counted.length];
        for (int k = 0; k < bits.length; k++) {
            bits[k] = Check.single(counted[k]);
        }
        dueValue(2, Check.single(limit), Check.single(want), bits);
    }

    private static void dueReal(double limit, double want, double... counted) {
        long[] bits = new long[counted.length];
        for (int k = 0; k < bits.length; k++) {
            bits[k] = Check.real(counted[k]);
        }
        dueValue(3, Check.real(limit), Check.real(want), bits);
    }

    private static void wholesAndLongsWrap() {
        CHECK.sentence("To COUNT x: the sum of VALUE and x (WHOLES, LONGS wrap)");
        int least = Integer.MIN_VALUE;
        dueValue(0, least, least + 1, Integer.MAX_VALUE, 2);
        dueValue(0, least, 0, Integer.MAX_VALUE, 1);
        dueValue(0, Integer.MAX_VALUE, -1, Integer.MAX_VALUE - 1, 2);
        dueValue(0, Integer.MAX_VALUE, Integer.MAX_VALUE - 1, -Integer.MAX_VALUE + 1, -4);
        dueValue(0, 1000, (int) (999L + Integer.MAX_VALUE) % 1000, 999, Integer.MAX_VALUE);
        dueValue(1, Long.MIN_VALUE, Long.MIN_VALUE + 1, Long.MAX_VALUE, 2);
        dueValue(1, Long.MAX_VALUE, -1, Long.MAX_VALUE - 1, 2);
        dueValue(1, 1L << 40, 1L << 31, Integer.MAX_VALUE, 1);
    }

    private static void sumsAreRoundedToTheNearest() {
        CHECK.sentence("To COUNT x: the sum of VALUE and x (SINGLES, DOUBLES are rounded to the nearest)");
        dueSingle(1e9f, 33554436f, 33554432f, 3f);
        dueSingle(1e9f, 33554432f, 33554432f, 1f);
        dueSingle(1e9f, 33554432f, 33554436f, -3f);
        dueSingle(1e9f, 16777216f, 16777216f, Float.MIN_VALUE);
        dueSingle(1e9f, 0x1.000002p0f, 1f, Math.nextUp(0x1p-24f));
        dueSingle(1f, 3 * Float.MIN_VALUE, Float.MIN_VALUE, 2 * Float.MIN_VALUE);
        dueSingle(1f, -Float.MIN_VALUE, Float.MIN_VALUE, -2 * Float.MIN_VALUE);
        dueSingle(1f, Float.MIN_NORMAL, Math.nextDown(Float.MIN_NORMAL), Float.MIN_VALUE);
        dueSingle(1f, Math.nextDown(Float.MIN_NORMAL), Float.MIN_NORMAL, -Float.MIN_VALUE);
        dueReal(1e300, 0x1.0000000000001p54, 0x1p54, 3);
        dueReal(1e300, 0x1p54, 0x1p54, 1);
        dueReal(1e300, 0x1p53, 0x1p53, Double.MIN_VALUE);
        dueReal(1e300, Math.nextUp(1.0), 1, Math.nextUp(0x1p-53));
        dueReal(1e300, 1, 1, -0x1p-60);
        dueReal(1e300, 0.1 + 0.2, 0.1, 0.2);
        dueReal(1, 3 * Double.MIN_VALUE, Double.MIN_VALUE, 2 * Double.MIN_VALUE);
        dueReal(1, -Double.MIN_VALUE, Double.MIN_VALUE, -2 * Double.MIN_VALUE);
        dueReal(1, Math.nextDown(Double.MIN_NORMAL), Double.MIN_NORMAL, -Double.MIN_VALUE);
    }

    private static void sumsBetweenTwo() {
        CHECK.sentence("SINGLES, DOUBLES are rounded to the nearest, as told: of two the one whose last bit is 0");
        dueSingle(1e9f, 16777216f, 16777216f, 1f);
        dueSingle(1e9f, 16777220f, 16777218f, 1f);
        dueSingle(1e9f, -16777216f, -16777216f, -1f);
        dueSingle(1e9f, 1f, 1f, 0x1p-24f);
        dueSingle(1e9f, 1f, 1f, -0x1p-26f);
        dueReal(1e300, 0x1p53, 0x1p53, 1);
        dueReal(1e300, 0x1p53 + 4, 0x1p53 + 2, 1);
        dueReal(1e300, -0x1p53, -0x1p53, -1);
        dueReal(1e300, 1, 1, 0x1p-53);
        dueReal(1e300, 1, 1, -0x1p-54);
    }

    private static void theRestByTheLimitIsTheValue() {
        CHECK.sentence("then its REST by the LIMIT, is the VALUE then");
        dueValue(0, 60, 59, 59);
        dueValue(0, 60, 0, 60);
        dueValue(0, 60, 1, 61);
        dueValue(0, 60, -1, -61);
        dueValue(0, -7, 3, 10);
        dueValue(0, -7, -2, 10, -5);
        dueValue(0, -1, 0, Integer.MIN_VALUE);
        dueValue(1, -1, 0, Long.MIN_VALUE);
        dueValue(0, 60, 5, 45, 20);
        dueValue(1, 1L << 40, 5, (1L << 41) + 5);
        dueReal(0.75, 0.5, 2);
        dueReal(0.75, -0.25, 2, -1.5);
        dueReal(-0.75, 0.5, 2);
        dueReal(60, Math.nextDown(60.0), Math.nextDown(60.0));
        dueReal(60, 0, 60);
        dueSingle(-0.75f, 0.5f, 2f);
        dueSingle(360f, 1f, 359f, 2f);
        dueSingle(Float.MIN_VALUE, 0f, Float.MAX_VALUE);
    }

    private static void theValueKeepsTheSignOfZero() {
        CHECK.sentence("To COUNT x: the sum, then its REST (it has the sign of a, also 0.0)");
        dueReal(60, 0.0, -0.0);
        dueReal(60, -0.0, -60);
        dueReal(60, -0.0, -60, -0.0);
        dueReal(60, 0.0, -60, 0.0);
        dueReal(60, 0.0, 5, -5);
        dueReal(60, 0.0, -5, 5);
        dueSingle(-60f, -0f, -120f);
        dueSingle(-60f, -0f, -120f, -0f);
        dueSingle(-60f, 0f, 120f);
    }

    private static void countIsUnknown() {
        CHECK.sentence("Promise 6: UNKNOWN");
        for (int meter : NO_METERS) {
            TWINS.refused("count(" + meter + ", 1)", Halls::furnished, UNKNOWN, hall -> hall.count(meter, 1));
        }
        CHECK.sentence("UNKNOWN, OUTSIDE: the first of these that fits");
        TWINS.refused("count of no METER, no BITS", Halls::furnished, UNKNOWN, hall -> hall.count(4, 1L << 40));
    }

    /** BitsTest has more of what are no BITS. */
    private static void countIsOutside() {
        CHECK.sentence("Promise 6: x, told by BITS of its FORM (not ENDLESS); OUTSIDE");
        long[][] wrong = {{0, 1L << 31}, {0, -(1L << 31) - 1}, {2, 1L << 31}, {2, Check.single(Float.NaN)},
            {2, Check.single(Float.POSITIVE_INFINITY)}, {2, Check.single(Float.NEGATIVE_INFINITY)},
            {3, Check.real(Double.NaN)}, {3, Check.real(Double.POSITIVE_INFINITY)},
            {3, Check.real(Double.NEGATIVE_INFINITY)}};
        for (long[] call : wrong) {
            String name = "count(" + call[0] + ", " + call[1] + ")";
            TWINS.refused(name, Halls::high, OUTSIDE, hall -> hall.count((int) call[0], call[1]));
        }
    }

    private static void countIsGreat() {
        CHECK.sentence("6 GREAT: the sum is ENDLESS; Promise 6: GREAT");
        TWINS.refused("count of SINGLES", Halls::high, GREAT, hall -> hall.count(2, Check.single(3e38f)));
        TWINS.refused("count of DOUBLES", Halls::high, GREAT, hall -> hall.count(3, Check.real(1.7e308)));
        Twins.Making low = () -> {
            MeterHall hall = Halls.furnished();
            hall.count(2, Check.single(-3e38f));
            hall.count(3, Check.real(-1.7e308));
            return hall;
        };
        TWINS.refused("count below, of SINGLES", low, GREAT, hall -> hall.count(2, Check.single(-3e38f)));
        TWINS.refused("count below, of DOUBLES", low, GREAT, hall -> hall.count(3, Check.real(-1.7e308)));
        CHECK.sentence("what is half a step or more above the greatest is ENDLESS (of a sum)");
        Twins.Making high = MetersTest::aStepBelowTheGreatest;
        TWINS.refused("just half a step, of SINGLES", high, GREAT, hall -> hall.count(0, Check.single(0x1.8p104f)));
        TWINS.refused("just half a step, of DOUBLES", high, GREAT, hall -> hall.count(1, Check.real(0x1.8p971)));
    }

    private static MeterHall aStepBelowTheGreatest() {
        MeterHall hall = new MeterHall();
        hall.meter(2, Check.single(Float.MAX_VALUE));
        hall.meter(3, Check.real(Double.MAX_VALUE));
        hall.count(0, Check.single(Math.nextDown(Float.MAX_VALUE)));
        hall.count(1, Check.real(Math.nextDown(Double.MAX_VALUE)));
        return hall;
    }

    private static void countIsNotGreatJustBelow() {
        CHECK.sentence("6 GREAT: the sum is ENDLESS; a sum that is less than half a step above the greatest goes round");
        float[] singles = {0x1p104f, Math.nextDown(0x1.8p104f)};
        double[] doubles = {0x1p971, Math.nextDown(0x1.8p971)};
        for (int k = 0; k < 2; k++) {
            MeterHall hall = aStepBelowTheGreatest();
            CHECK.due("count to the greatest SINGLE", hall.count(0, Check.single(singles[k])), 1);
            CHECK.due("VALUE", hall.value(0, 0), 0);
            CHECK.due("count to the greatest DOUBLE", hall.count(1, Check.real(doubles[k])), 1);
            CHECK.due("VALUE", hall.value(1, 0), 0);
            CHECK.due("told(8)", hall.told(8), 0);
        }
    }

    private static void carryTurnsTheValue() {
        CHECK.sentence("Promise 7: A METER COUNTS what another one has as VALUE, TURNED into its FORM: 1.");
        long far = (1L << 33) + (1L << 31) + 33554435;
        dueCarry(0, Integer.MIN_VALUE, 1, far, Integer.MIN_VALUE + 33554435);
        dueCarry(0, 1000, 1, 2500, 500);
        dueCarry(0, 1000, 3, Check.real(-2.75), -2);
        dueCarry(0, 1000, 3, Check.real(1e20), Integer.MAX_VALUE % 1000);
        dueCarry(0, 1000, 2, Check.single(-1e20f), Integer.MIN_VALUE % 1000);
        dueCarry(1, 1000, 0, -1001, -1);
        dueCarry(1, Long.MAX_VALUE, 2, Check.single(-1e30f), -1);
        dueCarry(1, 1000, 3, Check.real(1e30), Long.MAX_VALUE % 1000);
        dueCarry(2, Check.single(1e30f), 0, 16777217, Check.single(16777216f));
        dueCarry(2, Check.single(1e30f), 1, far, Check.single((float) far));
        dueCarry(2, Check.single(1e30f), 3, Check.real(0x1p-150), 0);
        dueCarry(3, Check.real(1e30), 1, (1L << 53) + 1, Check.real(0x1p53));
        dueCarry(3, Check.real(1e30), 2, Check.single(0.1f), Check.real(0.1f));
        dueCarry(3, Check.real(1e30), 0, Integer.MIN_VALUE + 1, Check.real(-2147483647.0));
    }

    private static void dueCarry(int form, long limit, int from, long value, long want) {
        MeterHall hall = new MeterHall();
        hall.meter(form, limit);
        hall.meter(from, Halls.LIMITS[from] == 1000 ? Integer.MIN_VALUE : Halls.LIMITS[from]);
        hall.count(1, value);
        CHECK.due("carry from FORM " + from + " to " + form + " of " + value, hall.carry(0, 1), 1);
        CHECK.due("VALUE behind it", hall.value(0, 0), want);
        CHECK.due("VALUE of the other one", hall.value(1, 0), value);
    }

    private static void carryToTheSameMeter() {
        CHECK.sentence("Promise 7: A METER COUNTS what another one has as VALUE (here: itself)");
        MeterHall hall = new MeterHall();
        hall.meter(0, 100);
        hall.count(0, 70);
        CHECK.due("carry(0, 0)", hall.carry(0, 0), 1);
        CHECK.due("VALUE", hall.value(0, 0), 40);
    }

    private static void carryIsUnknown() {
        CHECK.sentence("Promise 7, UNKNOWN: both");
        for (int meter : NO_METERS) {
            TWINS.refused("carry(" + meter + ", 0)", Halls::furnished, UNKNOWN, hall -> hall.carry(meter, 0));
            TWINS.refused("carry(0, " + meter + ")", Halls::furnished, UNKNOWN, hall -> hall.carry(0, meter));
        }
    }

    private static void carryIsGreatInTurning() {
        CHECK.sentence("6 GREAT: what a number was TURNED into is ENDLESS; Promise 7: GREAT");
        TWINS.refused("carry(2, 3)", Halls::high, GREAT, hall -> hall.carry(2, 3));
        Twins.Making below = () -> {
            MeterHall hall = Halls.furnished();
            hall.count(3, Check.real(-1e300));
            return hall;
        };
        TWINS.refused("carry(2, 3) of -1e300", below, GREAT, hall -> hall.carry(2, 3));
        CHECK.sentence("UNKNOWN: ahead of FINDINGS");
        TWINS.refused("carry(4, 3)", Halls::high, UNKNOWN, hall -> hall.carry(4, 3));
    }

    private static void carryIsGreatInTheSum() {
        CHECK.sentence("6 GREAT: the sum is ENDLESS; Promise 7: GREAT");
        TWINS.refused("carry(2, 2)", Halls::high, GREAT, hall -> hall.carry(2, 2));
        TWINS.refused("carry(3, 3)", Halls::high, GREAT, hall -> hall.carry(3, 3));
    }

    private static void valueTellsAllFour() {
        CHECK.sentence("Promise 8: BITS of VALUE (what 0), of LIMIT (1), what it SHOWS (2), its FORM (3).");
        long[] shown = {-7, 1L << 40, 3, Long.MIN_VALUE};
        MeterHall hall = Halls.withMeters();
        for (int form = 0; form < 4; form++) {
            long[] due = {Halls.VALUES[form], Halls.LIMITS[form], shown[form], form};
            for (int what = 0; what < 4; what++) {
                hall.value(9, 9);
                CHECK.due("value(" + form + ", " + what + ")", hall.value(form, what), due[what]);
                CHECK.due("finding()", hall.finding(), 0);
            }
        }
    }

    private static void aMeterShowsALong() {
        CHECK.sentence("A METER SHOWS its VALUE as a LONG (TURNED into that).");
        dueShown(0, Integer.MIN_VALUE, Integer.MIN_VALUE + 1, Integer.MIN_VALUE + 1);
        dueShown(1, Long.MIN_VALUE, Long.MIN_VALUE + 1, Long.MIN_VALUE + 1);
        dueShown(2, Check.single(8f), Check.single(-2.75f), -2);
        dueShown(2, Check.single(1e38f), Check.single(1e20f), Long.MAX_VALUE);
        dueShown(3, Check.real(8), Check.real(-0.5), 0);
        dueShown(3, Check.real(8), Check.real(7.999), 7);
        dueShown(3, Check.real(1e30), Check.real(-1e20), Long.MIN_VALUE);
        dueShown(3, Check.real(1e30), Check.real(0x1p62), 1L << 62);
    }

    private static void dueShown(int form, long limit, long value, long want) {
        MeterHall hall = new MeterHall();
        hall.meter(form, limit);
        hall.count(0, value);
        CHECK.due("value(0, 2) of " + value, hall.value(0, 2), want);
    }

    private static void valueIsUnknownOrOutside() {
        CHECK.sentence("Promise 8, 0: UNKNOWN, OUTSIDE (finding() tells -1, -2).");
        for (int meter : NO_METERS) {
            TWINS.refusedBits("value(" + meter + ", 0)", Halls::furnished, UNKNOWN, hall -> hall.value(meter, 0));
        }
        int[] wrong = {-1, 4, Integer.MIN_VALUE, Integer.MAX_VALUE};
        for (int what : wrong) {
            TWINS.refusedBits("value(1, " + what + ")", Halls::furnished, OUTSIDE, hall -> hall.value(1, what));
        }
        CHECK.sentence("UNKNOWN, OUTSIDE: the first of these that fits");
        TWINS.refusedBits("value(4, 4)", Halls::furnished, UNKNOWN, hall -> hall.value(4, 4));
    }
}
