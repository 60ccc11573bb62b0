/** Promises 1 (a new object), 5 (meter), 6 (count), 7 (carry) and 8 (value). */
final class MetersTest {
    private static final Check CHECK = new Check();
    private static final int GREAT = -46;

    public static void main(String[] args) {
        nothingIsThereAtFirst();
        metersAreNumberedUpToFull();
        meterRefuses();
        countGoesRound();
        countKeepsTheSignOfZero();
        countRoundsToTheNearest();
        countRefusesAndChangesNothing();
        carryTurns();
        carryIsRefusedOrGreat();
        valueTellsAllFour();
        valueRefuses();
        CHECK.done();
    }

    private static void nothingIsThereAtFirst() {
        MeterHall hall = new MeterHall();
        for (int what = 0; what <= 8; what++) {
            CHECK.due("told(" + what + ") at first", hall.told(what), 0);
        }
        for (int track = 0; track < 12; track++) {
            CHECK.due("form(" + track + ") at first", hall.form(track), MeterHall.NONE);
        }
        CHECK.due("finding() at first", hall.finding(), 0);
        CHECK.due("count(0, 1) at first", hall.count(0, 1), MeterHall.UNKNOWN);
        CHECK.due("many(0, 0) at first", hall.many(0, 0), MeterHall.UNKNOWN);
        CHECK.due("clear() at first", hall.clear(), 0);
    }

    private static void metersAreNumberedUpToFull() {
        MeterHall hall = new MeterHall();
        for (int k = 0; k < 24; k++) {
            CHECK.due("meter " + k, hall.meter(k % 2, k + 1), k);
        }
        CHECK.due("a 25th meter", hall.meter(0, 5), MeterHall.FULL);
        CHECK.due("a 25th meter of limit 0", hall.meter(0, 0), MeterHall.OUTSIDE);
        CHECK.due("told(0)", hall.told(0), 24);
        CHECK.due("value(23, 1)", hall.value(23, 1), 24);
        CHECK.due("value(24, 1)", hall.value(24, 1), 0);
        CHECK.due("finding()", hall.finding(), MeterHall.UNKNOWN);
    }

    private static void meterRefuses() {
        MeterHall hall = new MeterHall();
        long[][] wrong = {{-1, 5}, {4, 5}, {0, 0}, {1, 0}, {0, 1L << 31}, {2, 0}, {2, Check.single(-0f)}, {3, 0},
            {3, Check.real(-0.0)}, {2, Check.single(Float.POSITIVE_INFINITY)}, {2, Check.single(Float.NEGATIVE_INFINITY)},
            {3, Check.real(Double.NEGATIVE_INFINITY)}, {2, Check.single(Float.NaN)}, {3, Check.real(Double.NaN)},
            {2, 1L << 31}};
        for (long[] pair : wrong) {
            CHECK.due("meter(" + pair[0] + ", " + pair[1] + ")", hall.meter((int) pair[0], pair[1]), MeterHall.OUTSIDE);
        }
        CHECK.due("told(0)", hall.told(0), 0);
        CHECK.due("meter of a limit below 0", hall.meter(0, -7), 0);
        CHECK.due("meter of the least limit", hall.meter(2, 1), 1);
    }

    private static void countGoesRound() {
        MeterHall hall = new MeterHall();
        hall.meter(0, -7);
        dueCount(hall, 0, 10, 3);
        dueCount(hall, 0, -5, -2);
        hall.meter(0, Integer.MIN_VALUE);
        dueCount(hall, 1, Integer.MAX_VALUE, Integer.MAX_VALUE);
        dueCount(hall, 1, 2, Integer.MIN_VALUE + 1);
        dueCount(hall, 1, -1, 0);
        hall.meter(1, Long.MAX_VALUE);
        dueCount(hall, 2, Long.MAX_VALUE - 1, Long.MAX_VALUE - 1);
        dueCount(hall, 2, 2, -1);
        hall.meter(0, -1);
        dueCount(hall, 3, Integer.MIN_VALUE, 0);
        hall.meter(3, Check.real(0.75));
        dueCount(hall, 4, Check.real(2), Check.real(0.5));
        dueCount(hall, 4, Check.real(-1.5), Check.real(-0.25));
        hall.meter(2, Check.single(-0.75f));
        dueCount(hall, 5, Check.single(2f), Check.single(0.5f));
    }

    private static void countKeepsTheSignOfZero() {
        MeterHall hall = new MeterHall();
        hall.meter(3, Check.real(60));
        dueCount(hall, 0, Check.real(-0.0), 0);
        dueCount(hall, 0, Check.real(-60), Check.real(-0.0));
        dueCount(hall, 0, Check.real(-0.0), Check.real(-0.0));
        dueCount(hall, 0, 0, 0);
        dueCount(hall, 0, Check.real(5), Check.real(5));
        dueCount(hall, 0, Check.real(-5), 0);
    }

    private static void countRoundsToTheNearest() {
        MeterHall hall = new MeterHall();
        hall.meter(2, Check.single(1e9f));
        dueCount(hall, 0, Check.single(16777216f), Check.single(16777216f));
        dueCount(hall, 0, Check.single(1f), Check.single(16777216f));
        dueCount(hall, 0, Check.single(3f), Check.single(16777220f));
        hall.meter(3, Check.real(1e300));
        dueCount(hall, 1, Check.real(0x1p53), Check.real(0x1p53));
        dueCount(hall, 1, Check.real(Math.nextUp(1.0)), Check.real(0x1p53 + 2));
    }

    private static void countRefusesAndChangesNothing() {
        MeterHall hall = new MeterHall();
        hall.meter(2, Check.single(Float.MAX_VALUE));
        hall.meter(0, 60);
        hall.count(1, 7);
        CHECK.due("count of no meter", hall.count(2, 0), MeterHall.UNKNOWN);
        CHECK.due("count of a meter below 0", hall.count(-1, 1L << 40), MeterHall.UNKNOWN);
        CHECK.due("count beyond an int", hall.count(1, 1L << 31), MeterHall.OUTSIDE);
        CHECK.due("count beyond a single", hall.count(0, 1L << 31), MeterHall.OUTSIDE);
        CHECK.due("count of no number", hall.count(0, Check.single(Float.NaN)), MeterHall.OUTSIDE);
        CHECK.due("count of an endless one", hall.count(0, Check.single(Float.NEGATIVE_INFINITY)), MeterHall.OUTSIDE);
        dueCount(hall, 0, Check.single(2e38f), Check.single(2e38f));
        CHECK.due("count to an endless sum", hall.count(0, Check.single(2e38f)), GREAT);
        CHECK.due("value as it was", hall.value(0, 0), Check.single(2e38f));
        CHECK.due("value as it was", hall.value(1, 0), 7);
        CHECK.due("told(8)", hall.told(8), 1);
    }

    private static void dueCount(MeterHall hall, int meter, long x, long value) {
        CHECK.due("count(" + meter + ", " + x + ")", hall.count(meter, x), 1);
        CHECK.due("value behind it", hall.value(meter, 0), value);
    }

    private static void carryTurns() {
        MeterHall hall = new MeterHall();
        hall.meter(0, 1000);
        hall.meter(1, Long.MAX_VALUE);
        hall.meter(2, Check.single(1e10f));
        hall.meter(3, Check.real(1e10));
        hall.count(1, (1L << 32) + 33554435);
        dueCarry(hall, 0, 1, 33554435 % 1000);
        dueCarry(hall, 2, 1, Check.single((float) ((1L << 32) + 33554435)));
        dueCarry(hall, 3, 2, Check.real((float) ((1L << 32) + 33554435)));
        dueCarry(hall, 0, 3, (435 + Integer.MAX_VALUE) % 1000);
        dueCarry(hall, 1, 1, 2 * ((1L << 32) + 33554435));
    }

    private static void dueCarry(MeterHall hall, int meter, int from, long value) {
        CHECK.due("carry(" + meter + ", " + from + ")", hall.carry(meter, from), 1);
        CHECK.due("value behind it", hall.value(meter, 0), value);
    }

    private static void carryIsRefusedOrGreat() {
        MeterHall hall = new MeterHall();
        hall.meter(2, Check.single(Float.MAX_VALUE));
        hall.meter(3, Check.real(Double.MAX_VALUE));
        hall.count(1, Check.real(1e300));
        CHECK.due("carry to no meter", hall.carry(2, 0), MeterHall.UNKNOWN);
        CHECK.due("carry from no meter", hall.carry(0, 2), MeterHall.UNKNOWN);
        CHECK.due("carry from none", hall.carry(0, MeterHall.NONE), MeterHall.UNKNOWN);
        CHECK.due("carry of what turns endless", hall.carry(0, 1), GREAT);
        CHECK.due("value as it was", hall.value(0, 0), 0);
        hall.count(1, Check.real(1.7e308));
        CHECK.due("carry to an endless sum", hall.carry(1, 1), GREAT);
        CHECK.due("value as it was", hall.value(1, 0), Check.real(1e300 + 1.7e308));
        CHECK.due("told(8)", hall.told(8), 2);
    }

    private static void valueTellsAllFour() {
        MeterHall hall = new MeterHall();
        hall.meter(3, Check.real(1e30));
        hall.count(0, Check.real(-1e20));
        long[] due = {Check.real(-1e20), Check.real(1e30), Long.MIN_VALUE, 3};
        for (int what = 0; what < 4; what++) {
            CHECK.due("value(0, " + what + ")", hall.value(0, what), due[what]);
            CHECK.due("finding()", hall.finding(), 0);
        }
        hall.meter(2, Check.single(8f));
        hall.count(1, Check.single(-2.75f));
        CHECK.due("what a single shows", hall.value(1, 2), -2);
        hall.meter(0, 8);
        CHECK.due("a new meter's value", hall.value(2, 0), 0);
    }

    private static void valueRefuses() {
        MeterHall hall = new MeterHall();
        hall.meter(0, 8);
        int[][] wrong = {{-1, 0, -1}, {1, 0, -1}, {24, 9, -1}, {Integer.MIN_VALUE, 0, -1}, {0, -1, -2}, {0, 4, -2}};
        for (int[] call : wrong) {
            hall.value(0, 0);
            CHECK.due("value(" + call[0] + ", " + call[1] + ")", hall.value(call[0], call[1]), 0);
            CHECK.due("finding()", hall.finding(), call[2]);
        }
    }
}
