import java.util.Random;

/** Promises 2 (turned), 3 (rest), 4 (order), and the sums of promise 6, with the machine's own numbers as measure. */
final class NumbersTest {
    private static final Check CHECK = new Check();
    private static final MeterHall HALL = new MeterHall();

    public static void main(String[] args) {
        turnedAtTheEdges();
        turnedRefuses();
        restAtTheEdges();
        restRefuses();
        orderAtTheEdges();
        orderRefuses();
        againstTheMachine();
        sumsAgainstTheMachine();
        CHECK.done();
    }

    private static void turnedAtTheEdges() {
        double greatest = Float.MAX_VALUE;
        double halfStep = Math.ulp(Float.MAX_VALUE) / 2.0;
        dueTurned(3, 2, Check.real(greatest + halfStep), Check.single(Float.POSITIVE_INFINITY));
        dueTurned(3, 2, Check.real(-greatest - halfStep), Check.single(Float.NEGATIVE_INFINITY));
        dueTurned(3, 2, Check.real(Math.nextDown(greatest + halfStep)), Check.single(Float.MAX_VALUE));
        double halfLeast = Float.MIN_VALUE / 2.0;
        dueTurned(3, 2, Check.real(halfLeast), 0);
        dueTurned(3, 2, Check.real(-halfLeast), Check.single(-0.0f));
        dueTurned(3, 2, Check.real(Math.nextUp(halfLeast)), 1);
        dueTurned(3, 2, Check.real(3 * halfLeast), 2);
        dueTurned(3, 2, Check.real(Double.MIN_VALUE), 0);
        dueTurned(3, 2, Check.real(1e300), Check.single(Float.POSITIVE_INFINITY));
        dueTurned(3, 2, Check.real(Double.NEGATIVE_INFINITY), Check.single(Float.NEGATIVE_INFINITY));
        dueTurned(2, 3, Check.single(Float.MIN_VALUE), Check.real(Float.MIN_VALUE));
        dueTurned(2, 3, Check.single(Float.NEGATIVE_INFINITY), Check.real(Double.NEGATIVE_INFINITY));
        dueTurned(1, 0, 0x180000000L, Integer.MIN_VALUE);
        dueTurned(1, 2, Long.MIN_VALUE, Check.single(-0x1p63f));
        dueTurned(1, 3, Long.MIN_VALUE, Check.real(-0x1p63));
        dueTurned(1, 3, (1L << 53) + 3, Check.real(0x1p53 + 4));
        dueTurned(0, 2, 16777219, Check.single(16777220f));
        dueTurned(3, 0, Check.real(Double.NEGATIVE_INFINITY), Integer.MIN_VALUE);
        dueTurned(3, 1, Check.real(Double.POSITIVE_INFINITY), Long.MAX_VALUE);
        dueTurned(3, 1, Check.real(-0x1p63), Long.MIN_VALUE);
        dueTurned(3, 1, Check.real(Math.nextDown(0x1p63)), 0x7ffffffffffffc00L);
        dueTurned(3, 0, Check.real(-0.999), 0);
        dueTurned(3, 0, Check.real(-2147483648.5), Integer.MIN_VALUE);
        dueTurned(3, 0, Check.real(2147483646.9), 2147483646);
    }

    private static void dueTurned(int form, int to, long bits, long want) {
        CHECK.due("turned(" + form + ", " + to + ", " + bits + ")", HALL.turned(form, to, bits), want);
        CHECK.due("finding() behind it", HALL.finding(), 0);
    }

    private static void turnedRefuses() {
        refusedTurned(-1, 0, 0);
        refusedTurned(4, 0, 0);
        refusedTurned(0, -1, 5);
        refusedTurned(0, 4, 5);
        refusedTurned(Integer.MIN_VALUE, Integer.MAX_VALUE, 5);
        refusedTurned(0, 1, 1L << 31);
        refusedTurned(0, 0, -(1L << 31) - 1);
        refusedTurned(2, 3, 0x80000000L);
        refusedTurned(2, 2, 1L << 32);
        refusedTurned(2, 2, 0x7f800001L);
        refusedTurned(2, 0, 0x7fffffffL);
        refusedTurned(2, 3, (int) 0xff800001L);
        refusedTurned(2, 3, -1);
        refusedTurned(3, 3, 0x7ff0000000000001L);
        refusedTurned(3, 1, 0x7ff8000000000000L);
        refusedTurned(3, 2, 0xfff0000000000001L);
        refusedTurned(3, 2, -1);
    }

    private static void refusedTurned(int form, int to, long bits) {
        HALL.turned(0, 0, 0);
        CHECK.due("turned(" + form + ", " + to + ", " + bits + ")", HALL.turned(form, to, bits), 0);
        CHECK.due("finding() behind it", HALL.finding(), MeterHall.OUTSIDE);
    }

    private static void restAtTheEdges() {
        dueRest(0, Integer.MIN_VALUE, -1, 0);
        dueRest(1, Long.MIN_VALUE, -1, 0);
        dueRest(1, Long.MIN_VALUE, Long.MAX_VALUE, -1);
        dueRest(1, Long.MAX_VALUE, Long.MIN_VALUE, Long.MAX_VALUE);
        dueRest(0, -7, -3, -1);
        dueRest(2, Check.single(-6f), Check.single(3f), Check.single(-0f));
        dueRest(3, Check.real(-6), Check.real(-3), Check.real(-0.0));
        dueRest(3, Check.real(-0.0), Check.real(5), Check.real(-0.0));
        dueRest(2, Check.single(-2.5f), Check.single(Float.NEGATIVE_INFINITY), Check.single(-2.5f));
        dueRest(3, Check.real(-0.0), Check.real(Double.POSITIVE_INFINITY), Check.real(-0.0));
        dueRest(3, Check.real(Double.MAX_VALUE), Check.real(3 * Double.MIN_VALUE),
            Check.real(Double.MAX_VALUE % (3 * Double.MIN_VALUE)));
        dueRest(3, Check.real(1e300), Check.real(0.7), Check.real(1e300 % 0.7));
        dueRest(2, Check.single(Float.MAX_VALUE), Check.single(7 * Float.MIN_VALUE),
            Check.single(Float.MAX_VALUE % (7 * Float.MIN_VALUE)));
    }

    private static void dueRest(int form, long a, long b, long want) {
        CHECK.due("rest(" + form + ", " + a + ", " + b + ")", HALL.rest(form, a, b), want);
        CHECK.due("finding() behind it", HALL.finding(), 0);
    }

    private static void restRefuses() {
        refusedRest(-1, 5, 3);
        refusedRest(4, 5, 3);
        refusedRest(0, 5, 0);
        refusedRest(1, 5, 0);
        refusedRest(0, 1L << 31, 3);
        refusedRest(0, 5, 1L << 31);
        refusedRest(2, Check.single(5f), Check.single(-0f));
        refusedRest(3, Check.real(5), Check.real(0.0));
        refusedRest(3, Check.real(5), Check.real(-0.0));
        refusedRest(2, Check.single(Float.NEGATIVE_INFINITY), Check.single(2f));
        refusedRest(3, Check.real(Double.POSITIVE_INFINITY), Check.real(2));
        refusedRest(3, Check.real(Double.POSITIVE_INFINITY), Check.real(Double.POSITIVE_INFINITY));
        refusedRest(2, Check.single(Float.NaN), Check.single(2f));
        refusedRest(3, Check.real(2), Check.real(Double.NaN));
    }

    private static void refusedRest(int form, long a, long b) {
        HALL.turned(0, 0, 0);
        CHECK.due("rest(" + form + ", " + a + ", " + b + ")", HALL.rest(form, a, b), 0);
        CHECK.due("finding() behind it", HALL.finding(), MeterHall.OUTSIDE);
    }

    private static void orderAtTheEdges() {
        dueOrder(0, -1, 1, 0);
        dueOrder(0, 7, 7, 1);
        dueOrder(1, Long.MIN_VALUE, Long.MAX_VALUE, 0);
        dueOrder(1, Long.MAX_VALUE, Long.MIN_VALUE, 2);
        dueOrder(2, Check.single(-0f), 0, 1);
        dueOrder(3, 0, Check.real(-0.0), 1);
        dueOrder(2, Check.single(-2f), Check.single(-1f), 0);
        dueOrder(3, Check.real(-1), Check.real(-2), 2);
        dueOrder(2, Check.single(Float.NEGATIVE_INFINITY), Check.single(-Float.MAX_VALUE), 0);
        dueOrder(3, Check.real(Double.POSITIVE_INFINITY), Check.real(Double.POSITIVE_INFINITY), 1);
        dueOrder(3, Check.real(Double.MIN_VALUE), Check.real(-0.0), 2);
    }

    private static void orderRefuses() {
        dueOrder(-1, 0, 0, MeterHall.OUTSIDE);
        dueOrder(4, 0, 0, MeterHall.OUTSIDE);
        dueOrder(0, 1L << 31, 0, MeterHall.OUTSIDE);
        dueOrder(2, 0, 1L << 31, MeterHall.OUTSIDE);
        dueOrder(2, Check.single(Float.NaN), 0, MeterHall.OUTSIDE);
        dueOrder(3, 0, Check.real(Double.NaN), MeterHall.OUTSIDE);
    }

    private static void dueOrder(int form, long a, long b, long want) {
        CHECK.due("order(" + form + ", " + a + ", " + b + ")", HALL.order(form, a, b), want);
    }

    private static void againstTheMachine() {
        Random random = new Random(11);
        MachineHall machine = new MachineHall();
        for (int k = 0; k < 300_000; k++) {
            MeterHall hall = new MeterHall();
            int form = random.nextInt(4);
            int to = random.nextInt(4);
            long a = SomeBits.of(random, form);
            long b = random.nextInt(4) == 0 ? SomeBits.near(random, form, a) : SomeBits.of(random, form);
            String numbers = form + ", " + a + ", " + b;
            CHECK.due("turned to " + to + " of " + numbers, hall.turned(form, to, a), machine.turned(form, to, a));
            CHECK.due("rest of " + numbers, hall.rest(form, a, b), machine.rest(form, a, b));
            CHECK.due("finding() behind it", hall.finding(), machine.finding());
            CHECK.due("order of " + numbers, hall.order(form, a, b), machine.order(form, a, b));
        }
    }

    /** Under the greatest limit a first count leaves the value as it is, so the second one tells a sum. */
    private static void sumsAgainstTheMachine() {
        Random random = new Random(12);
        long[] limits = {Integer.MAX_VALUE, Long.MAX_VALUE, Check.single(Float.MAX_VALUE), Check.real(Double.MAX_VALUE)};
        for (int k = 0; k < 300_000; k++) {
            int form = random.nextInt(4);
            MeterHall hall = new MeterHall();
            MachineHall machine = new MachineHall();
            hall.meter(form, limits[form]);
            machine.meter(form, limits[form]);
            long a = SomeBits.of(random, form);
            long b = random.nextBoolean() ? SomeBits.near(random, form, a) : SomeBits.of(random, form);
            String numbers = form + ", " + a + ", " + b;
            CHECK.due("first count of " + numbers, hall.count(0, a), machine.count(0, a));
            CHECK.due("second count of " + numbers, hall.count(0, b), machine.count(0, b));
            CHECK.due("value after " + numbers, hall.value(0, 0), machine.value(0, 0));
        }
    }
}
