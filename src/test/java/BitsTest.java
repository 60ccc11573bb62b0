/** The document's sentences on FORMS and BITS, in every call that is told a number. */
final class BitsTest {
    private static final Check CHECK = new Check();
    private static final Twins TWINS = new Twins(CHECK);
    private static final int OUTSIDE = MeterHall.OUTSIDE;
    private static final long ENDLESS_SINGLE = 0x7f800000L, ENDLESS_DOUBLE = 0x7ff0000000000000L;
    private static final long SIGN_OF_SINGLE = 0xffffffff80000000L, SIGN_OF_DOUBLE = Long.MIN_VALUE;

    public static void main(String[] args) {
        theLastOfAllCallsIsAnswered();
        thereAreFourForms();
        bitsTellANumber();
        theEndsOfAnIntAreBits();
        beyondAnIntIsRefused();
        whatIsNoNumberIsRefused();
        endlessOnesAreBits();
        nextToEndlessOnesIsOrdinary();
        answersAreBits();
        CHECK.done();
    }

    private static void theLastOfAllCallsIsAnswered() {
        CHECK.sentence("An object is used for at most 512 calls after it has been made");
        MeterHall hall = new MeterHall();
        hall.meter(0, 1000);
        for (int k = 2; k < 512; k++) {
            hall.count(0, 1);
        }
        CHECK.due("the 512th call, value(0, 0)", hall.value(0, 0), 510);
    }

    private static void thereAreFourForms() {
        CHECK.sentence("0 WHOLES (ints), 1 LONGS, 2 SINGLES (floats), 3 DOUBLES.");
        int[] wrong = {-1, 4, 5, Integer.MIN_VALUE, Integer.MAX_VALUE};
        for (int form : wrong) {
            everyCallRefuses(form, 1);
        }
        for (int form = 0; form < 4; form++) {
            CHECK.due("meter of FORM " + form, new MeterHall().meter(form, 1), 0);
        }
    }

    private static void bitsTellANumber() {
        CHECK.sentence("BITS tell one as a long: a WHOLE, a LONG itself; a SINGLE its 32 as an int, a DOUBLE its 64.");
        MeterHall hall = new MeterHall();
        CHECK.due("a WHOLE", hall.turned(0, 1, -5), -5);
        CHECK.due("a LONG", hall.turned(1, 1, Long.MIN_VALUE), Long.MIN_VALUE);
        CHECK.due("a SINGLE", hall.turned(2, 0, 0x40a00000L), 5);
        CHECK.due("a SINGLE below 0", hall.turned(2, 0, 0xffffffffc0a00000L), -5);
        CHECK.due("a DOUBLE", hall.turned(3, 0, 0x4014000000000000L), 5);
        CHECK.due("a DOUBLE below 0", hall.turned(3, 0, 0xc014000000000000L), -5);
    }

    private static void theEndsOfAnIntAreBits() {
        CHECK.sentence("(A long beyond an int's is no BITS of a WHOLE or SINGLE.) Its ends are.");
        MeterHall hall = new MeterHall();
        CHECK.due("the greatest WHOLE", hall.turned(0, 1, Integer.MAX_VALUE), Integer.MAX_VALUE);
        CHECK.due("the least WHOLE", hall.turned(0, 1, Integer.MIN_VALUE), Integer.MIN_VALUE);
        CHECK.due("a SINGLE's least int", hall.turned(2, 3, Integer.MIN_VALUE), Check.real(-0.0));
        CHECK.due("finding()", hall.finding(), 0);
        CHECK.due("a limit at an end", hall.meter(0, Integer.MIN_VALUE), 0);
        CHECK.due("a limit at an end", hall.meter(0, Integer.MAX_VALUE), 1);
        CHECK.due("order of the ends", hall.order(0, Integer.MIN_VALUE, Integer.MAX_VALUE), 0);
        CHECK.due("count of an end", hall.count(1, Integer.MIN_VALUE), 1);
        CHECK.due("a long beyond an int's as a LONG", hall.order(1, 1L << 31, 1L << 31), 1);
        CHECK.due("a long beyond an int's as a DOUBLE", hall.order(3, 1L << 31, 1L << 31), 1);
    }

    private static void beyondAnIntIsRefused() {
        CHECK.sentence("(A long beyond an int's is no BITS of a WHOLE or SINGLE.)");
        long one = Check.single(1f);
        long[] wrong = {1L << 31, -(1L << 31) - 1, 1L << 32, (1L << 32) + one, one - (1L << 32), 0x80000001L, 0xffffffffL,
            Long.MAX_VALUE, Long.MIN_VALUE, Long.MIN_VALUE + one};
        for (long bits : wrong) {
            everyCallRefuses(0, bits);
            everyCallRefuses(2, bits);
        }
    }

    private static void whatIsNoNumberIsRefused() {
        CHECK.sentence("BITS of what is no number (exponent all 1s, fraction not 0) are refused everywhere");
        long[] fractions = {1, 2, 1L << 22, (1L << 23) - 1};
        for (long fraction : fractions) {
            everyCallRefuses(2, ENDLESS_SINGLE | fraction);
            everyCallRefuses(2, ENDLESS_SINGLE | fraction | SIGN_OF_SINGLE);
        }
        long[] longer = {1, 1L << 31, 1L << 32, 1L << 51, (1L << 52) - 1};
        for (long fraction : longer) {
            everyCallRefuses(3, ENDLESS_DOUBLE | fraction);
            everyCallRefuses(3, ENDLESS_DOUBLE | fraction | SIGN_OF_DOUBLE);
        }
    }

    private static void everyCallRefuses(int form, long bits) {
        String told = "(FORM " + form + ", BITS " + bits + ")";
        long one = form == 2 ? Check.single(1f) : form == 3 ? Check.real(1) : 1;
        for (int to = 0; to < 4; to++) {
            int other = to;
            TWINS.refusedBits("turned" + told, Halls::furnished, OUTSIDE, hall -> hall.turned(form, other, bits));
        }
        TWINS.refusedBits("rest, the first" + told, Halls::furnished, OUTSIDE, hall -> hall.rest(form, bits, one));
        TWINS.refusedBits("rest, the second" + told, Halls::furnished, OUTSIDE, hall -> hall.rest(form, one, bits));
        TWINS.refused("order, the first" + told, Halls::furnished, OUTSIDE, hall -> hall.order(form, bits, one));
        TWINS.refused("order, the second" + told, Halls::furnished, OUTSIDE, hall -> hall.order(form, one, bits));
        TWINS.refused("meter" + told, Halls::furnished, OUTSIDE, hall -> hall.meter(form, bits));
        TWINS.refused("write" + told, Halls::furnished, OUTSIDE, hall -> hall.write(form == 2 ? 0 : 1, form, 0, bits));
        if (form >= 0 && form < 4) {
            TWINS.refused("count" + told, Halls::furnished, OUTSIDE, hall -> hall.count(form, bits));
        }
    }

    private static void endlessOnesAreBits() {
        CHECK.sentence("ENDLESS are those of both infinite ones.");
        endlessIsTaken(2, ENDLESS_SINGLE, Check.single(-1f));
        endlessIsTaken(2, ENDLESS_SINGLE | SIGN_OF_SINGLE, Check.single(-1f));
        endlessIsTaken(3, ENDLESS_DOUBLE, Check.real(-1));
        endlessIsTaken(3, ENDLESS_DOUBLE | SIGN_OF_DOUBLE, Check.real(-1));
    }

    private static void endlessIsTaken(int form, long endless, long one) {
        MeterHall hall = Halls.furnished();
        CHECK.due("turned into its own FORM", hall.turned(form, form, endless), endless);
        CHECK.due("finding()", hall.finding(), 0);
        CHECK.due("rest by it", hall.rest(form, one, endless), one);
        CHECK.due("finding()", hall.finding(), 0);
        CHECK.due("order", hall.order(form, endless, one), endless < 0 ? 0 : 2);
        CHECK.due("write", hall.write(form - 2, form, 1, endless), 1);
        CHECK.dueRead(hall, form - 2, form, 1, endless);
        TWINS.refusedBits("rest of it", Halls::furnished, OUTSIDE, x -> x.rest(form, endless, one));
        TWINS.refused("meter", Halls::furnished, OUTSIDE, x -> x.meter(form, endless));
        TWINS.refused("count", Halls::furnished, OUTSIDE, x -> x.count(form, endless));
    }

    private static void nextToEndlessOnesIsOrdinary() {
        CHECK.sentence("ENDLESS are those of both infinite ones. The greatest and least ones are not.");
        long[] singles = {Check.single(Float.MAX_VALUE), Check.single(-Float.MAX_VALUE)};
        long[] doubles = {Check.real(Double.MAX_VALUE), Check.real(-Double.MAX_VALUE)};
        for (int k = 0; k < 2; k++) {
            MeterHall hall = new MeterHall();
            CHECK.due("meter of a greatest SINGLE", hall.meter(2, singles[k]), 0);
            CHECK.due("meter of a greatest DOUBLE", hall.meter(3, doubles[k]), 1);
            CHECK.due("count of a greatest SINGLE", hall.count(0, singles[k]), 1);
            CHECK.due("count of a greatest DOUBLE", hall.count(1, doubles[k]), 1);
            hall.rest(2, singles[k], Check.single(3f));
            CHECK.due("finding() behind its rest", hall.finding(), 0);
            hall.rest(3, doubles[k], Check.real(3));
            CHECK.due("finding() behind its rest", hall.finding(), 0);
        }
    }

    private static void answersAreBits() {
        CHECK.sentence("All answers are BITS, too.");
        MeterHall hall = Halls.furnished();
        CHECK.due("a SINGLE below 0 of turned", hall.turned(0, 2, -1), Check.single(-1f));
        CHECK.due("-0.0 of turned", hall.turned(3, 2, Check.real(-0.0)), Integer.MIN_VALUE);
        CHECK.due("a SINGLE below 0 of rest", hall.rest(2, Check.single(-7f), Check.single(4f)), Check.single(-3f));
        CHECK.due("-0.0 of rest", hall.rest(2, Check.single(-8f), Check.single(4f)), Integer.MIN_VALUE);
        hall.count(2, Check.single(-4.5f));
        CHECK.due("a SINGLE below 0 of value", hall.value(2, 0), Check.single(-1f));
        CHECK.due("meter of a limit below 0", hall.meter(2, Check.single(-9f)), 4);
        CHECK.due("a SINGLE below 0 of value", hall.value(4, 1), Check.single(-9f));
        CHECK.dueRead(hall, Halls.SINGLES, 2, 1, Check.single(-2.75f));
        hall.log(2, Halls.SINGLES, 2, 1);
        CHECK.dueRead(hall, Halls.SINGLES, 2, 1, Check.single(-1f));
    }
}
