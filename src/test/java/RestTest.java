/** THE REST, clause by clause, promise 3 (rest) and promise 4 (order). */
final class RestTest {
    private static final Check CHECK = new Check();
    private static final Twins TWINS = new Twins(CHECK);
    private static final int OUTSIDE = MeterHall.OUTSIDE;

    public static void main(String[] args) {
        restIsWhatIsLeft();
        restIsExact();
        restHasTheSignOfTheFirst();
        restByAnEndlessOne();
        restOfTheLeastByMinusOne();
        restOfSinglesIsASingle();
        restOfAnEndlessOneIsRefused();
        restByZeroIsRefused();
        restRefusesFormsAndBits();
        orderTellsThree();
        orderOfBothZeros();
        orderOfEndlessOnes();
        orderRefuses();
        CHECK.done();
    }

    private static void due(int form, long a, long b, long want) {
        MeterHall hall = new MeterHall();
        hall.rest(9, 0, 0);
        CHECK.due("rest(" + form + ", " + a + ", " + b + ")", hall.rest(form, a, b), want);
        CHECK.due("finding() behind it", hall.finding(), 0);
    }

    private static void dueReal(double a, double b, double want) {
        due(3, Check.real(a), Check.real(b), Check.real(want));
    }

    private static void dueSingle(float a, float b, float want) {
        due(2, Check.single(a), Check.single(b), Check.single(want));
    }

    private static void refused(int form, long a, long b) {
        String call = "rest(" + form + ", " + a + ", " + b + ")";
        TWINS.refusedBits(call, Halls::furnished, OUTSIDE, hall -> hall.rest(form, a, b));
    }

    private static void restIsWhatIsLeft() {
        CHECK.sentence("a less b times the whole number that a / b is, cut toward 0");
        for (int form = 0; form < 2; form++) {
            due(form, 7, 3, 1);
            due(form, 6, 3, 0);
            due(form, 2, 3, 2);
            due(form, 3, 3, 0);
            due(form, 0, 3, 0);
            due(form, 7, 1, 0);
            due(form, 7, Integer.MIN_VALUE, 7);
        }
        due(0, Integer.MIN_VALUE, Integer.MAX_VALUE, -1);
        due(0, Integer.MIN_VALUE, Integer.MIN_VALUE, 0);
        due(1, Long.MIN_VALUE, Long.MAX_VALUE, -1);
        due(1, Long.MAX_VALUE, Long.MIN_VALUE, Long.MAX_VALUE);
        dueReal(7.5, 2, 1.5);
        dueReal(2, 2, 0);
        dueReal(1.5, 2, 1.5);
        dueReal(0, 2, 0);
        dueSingle(7.5f, 2f, 1.5f);
        dueSingle(2f, 2f, 0f);
    }

    private static void restIsExact() {
        CHECK.sentence("THE REST of a by b: ..., exactly");
        dueReal(1, 0.1, 0x1.9999999999996p-4);
        dueReal(Double.MAX_VALUE, 3, 2);
        dueReal(0x1p1023, 3, 2);
        dueReal(Double.MAX_VALUE, Math.nextDown(Double.MAX_VALUE), Math.ulp(Double.MAX_VALUE));
        dueReal(Double.MAX_VALUE, Double.MIN_VALUE, 0);
        dueReal(0x1p1023, 3 * Double.MIN_VALUE, 2 * Double.MIN_VALUE);
        dueReal(Double.MIN_NORMAL, 3 * Double.MIN_VALUE, Double.MIN_VALUE);
        dueReal(Math.nextUp(1.0), 1, Math.ulp(1.0));
        dueReal(5 * Double.MIN_VALUE, 3 * Double.MIN_VALUE, 2 * Double.MIN_VALUE);
        dueReal(Double.MIN_VALUE, Double.MAX_VALUE, Double.MIN_VALUE);
        dueSingle(Float.MAX_VALUE, 7 * Float.MIN_VALUE, Float.MAX_VALUE % (7 * Float.MIN_VALUE));
        dueSingle(0x1p127f, 3f, 2f);
        dueSingle(Float.MAX_VALUE, Float.MIN_VALUE, 0f);
    }

    private static void restHasTheSignOfTheFirst() {
        CHECK.sentence("it has the sign of a (also 0.0)");
        for (int form = 0; form < 2; form++) {
            due(form, -7, 3, -1);
            due(form, 7, -3, 1);
            due(form, -7, -3, -1);
        }
        dueReal(-7.5, 2, -1.5);
        dueReal(7.5, -2, 1.5);
        dueReal(-7.5, -2, -1.5);
        dueReal(-6, 2, -0.0);
        dueReal(6, -2, 0.0);
        dueReal(-6, -2, -0.0);
        dueReal(-0.0, 5, -0.0);
        dueReal(0.0, -5, 0.0);
        dueSingle(-6f, 2f, -0f);
        dueSingle(6f, -2f, 0f);
        dueSingle(-0f, -5f, -0f);
        dueSingle(-1.5f, 1f, -0.5f);
    }

    private static void restByAnEndlessOne() {
        CHECK.sentence("with b ENDLESS it is a");
        double[] numbers = {0.0, -0.0, -2.5, Double.MIN_VALUE, Double.MAX_VALUE, -Double.MAX_VALUE};
        for (double number : numbers) {
            dueReal(number, Double.POSITIVE_INFINITY, number);
            dueReal(number, Double.NEGATIVE_INFINITY, number);
        }
        float[] singles = {0f, -0f, 2.5f, -Float.MIN_VALUE, Float.MAX_VALUE, -Float.MAX_VALUE};
        for (float single : singles) {
            dueSingle(single, Float.POSITIVE_INFINITY, single);
            dueSingle(single, Float.NEGATIVE_INFINITY, single);
        }
    }

    private static void restOfTheLeastByMinusOne() {
        CHECK.sentence("of WHOLES, LONGS the least by -1: 0");
        due(0, Integer.MIN_VALUE, -1, 0);
        due(1, Long.MIN_VALUE, -1, 0);
        due(1, Integer.MIN_VALUE, -1, 0);
        due(0, 5, -1, 0);
    }

    private static void restOfSinglesIsASingle() {
        CHECK.sentence("A SINGLE's is a SINGLE.");
        dueSingle(1f, 0.1f, 1f % 0.1f);
        dueSingle(1e30f, 0.3f, 1e30f % 0.3f);
        dueSingle(-16777216f, 0.7f, -16777216f % 0.7f);
    }

    private static void restOfAnEndlessOneIsRefused() {
        CHECK.sentence("(a ENDLESS, or b 0: refused.) Promise 3: the first one is ENDLESS");
        refused(2, Check.single(Float.POSITIVE_INFINITY), Check.single(2f));
        refused(2, Check.single(Float.NEGATIVE_INFINITY), Check.single(2f));
        refused(3, Check.real(Double.POSITIVE_INFINITY), Check.real(2));
        refused(3, Check.real(Double.NEGATIVE_INFINITY), Check.real(2));
        refused(2, Check.single(Float.NEGATIVE_INFINITY), Check.single(Float.POSITIVE_INFINITY));
        refused(3, Check.real(Double.POSITIVE_INFINITY), Check.real(Double.POSITIVE_INFINITY));
    }

    private static void restByZeroIsRefused() {
        CHECK.sentence("(a ENDLESS, or b 0: refused.) Promise 3: the second one is 0");
        refused(0, 7, 0);
        refused(0, 0, 0);
        refused(1, 7, 0);
        refused(1, Long.MIN_VALUE, 0);
        refused(2, Check.single(7f), Check.single(0f));
        refused(2, Check.single(7f), Check.single(-0f));
        refused(3, Check.real(7), Check.real(0.0));
        refused(3, Check.real(7), Check.real(-0.0));
        refused(3, Check.real(0.0), Check.real(-0.0));
    }

    /** BitsTest has more of what are no BITS. */
    private static void restRefusesFormsAndBits() {
        CHECK.sentence("Promise 3, 0: OUTSIDE (finding() tells -2): the FORM, BITS");
        refused(-1, 7, 3);
        refused(4, 7, 3);
        refused(0, 1L << 31, 3);
        refused(0, 7, -(1L << 31) - 1);
        refused(2, Check.single(Float.NaN), Check.single(2f));
        refused(3, Check.real(2), Check.real(Double.NaN));
    }

    private static void dueOrder(int form, long less, long greater) {
        MeterHall hall = new MeterHall();
        String numbers = " of " + form + ", " + less + ", " + greater;
        CHECK.due("order" + numbers, hall.order(form, less, greater), 0);
        CHECK.due("order, turned round," + numbers, hall.order(form, greater, less), 2);
        CHECK.due("order of the first by itself" + numbers, hall.order(form, less, less), 1);
        CHECK.due("order of the second by itself" + numbers, hall.order(form, greater, greater), 1);
    }

    private static void orderTellsThree() {
        CHECK.sentence("Promise 4: 0 the first one is less, 1 the same, 2 greater");
        dueOrder(0, -1, 0);
        dueOrder(0, Integer.MIN_VALUE, Integer.MAX_VALUE);
        dueOrder(1, Long.MIN_VALUE, Long.MAX_VALUE);
        dueOrder(1, (1L << 53), (1L << 53) + 1);
        float[] singles = {-Float.MAX_VALUE, -2f, -1f, -Float.MIN_NORMAL, -Float.MIN_VALUE, 0f, Float.MIN_VALUE, 1f,
            Math.nextUp(1f), 2f, Float.MAX_VALUE};
        double[] doubles = {-Double.MAX_VALUE, -2, -1, -Double.MIN_NORMAL, -Double.MIN_VALUE, 0, Double.MIN_VALUE, 1,
            Math.nextUp(1.0), 2, Double.MAX_VALUE};
        for (int k = 1; k < singles.length; k++) {
            dueOrder(2, Check.single(singles[k - 1]), Check.single(singles[k]));
            dueOrder(3, Check.real(doubles[k - 1]), Check.real(doubles[k]));
        }
    }

    private static void orderOfBothZeros() {
        CHECK.sentence("Promise 4: 1 the same (0.0 and -0.0, too)");
        MeterHall hall = new MeterHall();
        CHECK.due("order of SINGLES 0.0, -0.0", hall.order(2, 0, Check.single(-0f)), 1);
        CHECK.due("order of SINGLES -0.0, 0.0", hall.order(2, Check.single(-0f), 0), 1);
        CHECK.due("order of DOUBLES 0.0, -0.0", hall.order(3, 0, Check.real(-0.0)), 1);
        CHECK.due("order of DOUBLES -0.0, 0.0", hall.order(3, Check.real(-0.0), 0), 1);
        dueOrder(2, Check.single(-0f), Check.single(Float.MIN_VALUE));
        dueOrder(3, Check.real(-Double.MIN_VALUE), Check.real(-0.0));
    }

    private static void orderOfEndlessOnes() {
        CHECK.sentence("Promise 4: how two numbers of a FORM stand (ENDLESS ones, too)");
        dueOrder(2, Check.single(Float.NEGATIVE_INFINITY), Check.single(-Float.MAX_VALUE));
        dueOrder(2, Check.single(Float.MAX_VALUE), Check.single(Float.POSITIVE_INFINITY));
        dueOrder(3, Check.real(Double.NEGATIVE_INFINITY), Check.real(-Double.MAX_VALUE));
        dueOrder(3, Check.real(Double.MAX_VALUE), Check.real(Double.POSITIVE_INFINITY));
        dueOrder(3, Check.real(Double.NEGATIVE_INFINITY), Check.real(Double.POSITIVE_INFINITY));
    }

    private static void orderRefuses() {
        CHECK.sentence("Promise 4: OUTSIDE.");
        long[][] wrong = {{-1, 0, 0}, {4, 0, 0}, {0, 1L << 31, 0}, {0, 0, -(1L << 31) - 1}, {2, 0, 1L << 31},
            {2, Check.single(Float.NaN), 0}, {3, 0, Check.real(Double.NaN)}, {3, -1, -1}};
        for (long[] call : wrong) {
            String name = "order(" + call[0] + ", " + call[1] + ", " + call[2] + ")";
            TWINS.refused(name, Halls::furnished, OUTSIDE, hall -> hall.order((int) call[0], call[1], call[2]));
        }
    }
}
