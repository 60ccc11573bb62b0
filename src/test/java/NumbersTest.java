import java.util.Random;

/** Many numbers turned, divided, ordered and added, with the machine's own floats and doubles as measure. */
final class NumbersTest {
    private static final Check CHECK = new Check();

    public static void main(String[] args) {
        againstTheMachine();
        sumsAgainstTheMachine();
        CHECK.done();
    }

    private static void againstTheMachine() {
        CHECK.sentence("TO TURN a number into another FORM, as casts have it; THE REST; Promise 4");
        Random random = new Random(11);
        MachineHall machine = new MachineHall();
        for (int k = 0; k < 300_000; k++) {
            MeterHall hall = new MeterHall();
            int form = random.nextInt(4);
            int to = random.nextInt(4);
            long a = SomeBits.of(random, form);
            long b = random.nextInt(4) == 0 ? SomeBits.near(random, form, a) : SomeBits.of(random, form);
            String numbers = form + ", " + a + ", " + b;
            CHECK.due("turned to " + to + " of " + numbers, hall.turned(form, to, a), machine.turned(form, to, a));
            CHECK.due("rest of " + numbers, hall.rest(form, a, b), machine.rest(form, a, b));
            CHECK.due("finding() behind it", hall.finding(), machine.finding());
            CHECK.due("order of " + numbers, hall.order(form, a, b), machine.order(form, a, b));
        }
    }

    /** Under the greatest limit a first count leaves the value as it is, so the second one tells a sum. */
    private static void sumsAgainstTheMachine() {
        CHECK.sentence("the sum of VALUE and x (WHOLES, LONGS wrap; SINGLES, DOUBLES are rounded to the nearest, as told)");
        Random random = new Random(12);
        long[] limits = {Integer.MAX_VALUE, Long.MAX_VALUE, Check.single(Float.MAX_VALUE), Check.real(Double.MAX_VALUE)};
        for (int k = 0; k < 300_000; k++) {
            int form = random.nextInt(4);
            MeterHall hall = new MeterHall();
            MachineHall machine = new MachineHall();
            hall.meter(form, limits[form]);
            machine.meter(form, limits[form]);
            long a = SomeBits.of(random, form);
            long b = random.nextBoolean() ? SomeBits.near(random, form, a) : SomeBits.of(random, form);
            String numbers = form + ", " + a + ", " + b;
            CHECK.due("first count of " + numbers, hall.count(0, a), machine.count(0, a));
            CHECK.due("second count of " + numbers, hall.count(0, b), machine.count(0, b));
            CHECK.due("value after " + numbers, hall.value(0, 0), machine.value(0, 0));
        }
    }
}
