/** Promises 15 (feed) and 16 (log). */
final class FeedAndLogTest {
    private static final Check CHECK = new Check();
    private static final Twins TWINS = new Twins(CHECK);
    private static final int UNKNOWN = MeterHall.UNKNOWN, OUTSIDE = MeterHall.OUTSIDE;
    private static final int CAST = -41, PLACE = -42, NOTHING = -44, GREAT = -46;
    private static final int[] NO_METERS = {-1, 4, 23, 24, MeterHall.NONE, Integer.MIN_VALUE, Integer.MAX_VALUE};
    private static final int[] NO_TRACKS = {-1, 12, MeterHall.NONE, Integer.MIN_VALUE, Integer.MAX_VALUE};
    private static final int[] NO_TRACK_FORMS = {-1, 0, 1, 4, MeterHall.NONE, Integer.MIN_VALUE, Integer.MAX_VALUE};
    private static final int[] NO_PLACES = {-1, Halls.PLACES, 20, Integer.MIN_VALUE, Integer.MAX_VALUE};

    public static void main(String[] args) {
        feedCountsASingle();
        feedCountsADouble();
        feedOfAnEndlessOneToWholesAndLongs();
        feedOfAnEndlessOneIsGreat();
        feedIsGreatInTurning();
        feedIsGreatInTheSum();
        logWritesTheValue();
        logTurnsTheValue();
        logOfWhatTurnsEndless();
        feedAndLogRefuse();
        feedAndLogRefuseInOrder();
        CHECK.done();
    }

    /** A new METER is fed with what is at place 0. */
    private static void dueFeed(int form, long limit, int rowForm, long bits, long want) {
        MeterHall hall = new MeterHall();
        hall.meter(form, limit);
        hall.track(0, rowForm, 1);
        hall.write(0, rowForm, 0, bits);
        CHECK.due("feed of " + bits + " to FORM " + form, hall.feed(0, 0, rowForm, 0), 1);
        CHECK.due("VALUE behind it", hall.value(0, 0), want);
        CHECK.dueRead(hall, 0, rowForm, 0, bits);
    }

    private static void feedCountsASingle() {
        CHECK.sentence("Promise 15: A METER COUNTS what is at place i, taken for a FORM (2), TURNED into its FORM: 1.");
        dueFeed(0, 1000, 2, Check.single(-2.75f), -2);
        dueFeed(0, 1000, 2, Check.single(1e10f), Integer.MAX_VALUE % 1000);
        dueFeed(1, 1000, 2, Check.single(-2.75f), -2);
        dueFeed(1, 1000, 2, Check.single(-1e30f), Long.MIN_VALUE % 1000);
        dueFeed(2, Check.single(2f), 2, Check.single(-2.75f), Check.single(-0.75f));
        dueFeed(3, Check.real(1e10), 2, Check.single(0.1f), Check.real(0.1f));
        MeterHall hall = Halls.furnished();
        CHECK.due("feed of place 1", hall.feed(0, Halls.SHARED, 2, 1), 1);
        CHECK.due("VALUE behind it", hall.value(0, 0), -9);
    }

    private static void feedCountsADouble() {
        CHECK.sentence("Promise 15: A METER COUNTS what is at place i, taken for a FORM (3), TURNED into its FORM: 1.");
        dueFeed(0, 1000, 3, Check.real(-2.75), -2);
        dueFeed(0, 1000, 3, Check.real(-1e10), Integer.MIN_VALUE % 1000);
        dueFeed(1, Long.MAX_VALUE, 3, Check.real(1e10), 10_000_000_000L);
        dueFeed(1, 1000, 3, Check.real(1e300), Long.MAX_VALUE % 1000);
        dueFeed(2, Check.single(2f), 3, Check.real(0.1), Check.single(0.1f));
        dueFeed(2, Check.single(2f), 3, Check.real(1e-300), 0);
        dueFeed(3, Check.real(2), 3, Check.real(-2.75), Check.real(-0.75));
    }

    private static void feedOfAnEndlessOneToWholesAndLongs() {
        CHECK.sentence("what lies beyond an end is that end (ENDLESS, too); Promise 15");
        dueFeed(0, 1000, 2, Check.single(Float.NEGATIVE_INFINITY), Integer.MIN_VALUE % 1000);
        dueFeed(0, 1000, 3, Check.real(Double.POSITIVE_INFINITY), Integer.MAX_VALUE % 1000);
        dueFeed(1, 1000, 2, Check.single(Float.POSITIVE_INFINITY), Long.MAX_VALUE % 1000);
        dueFeed(1, 1000, 3, Check.real(Double.NEGATIVE_INFINITY), Long.MIN_VALUE % 1000);
    }

    private static void feedIsGreat(String name, int meter, int form, long bits) {
        Twins.Making making = () -> {
            MeterHall hall = Halls.high();
            hall.write(form - 2, form, 0, bits);
            return hall;
        };
        TWINS.refused(name, making, GREAT, hall -> hall.feed(meter, form - 2, form, 0));
    }

    private static void feedOfAnEndlessOneIsGreat() {
        CHECK.sentence("Promise 15, GREAT (also: it is ENDLESS there, and the METER's FORM is 2 or 3).");
        for (int meter = 2; meter < 4; meter++) {
            feedIsGreat("an endless SINGLE", meter, 2, Check.single(Float.POSITIVE_INFINITY));
            feedIsGreat("an endless SINGLE below 0", meter, 2, Check.single(Float.NEGATIVE_INFINITY));
            feedIsGreat("an endless DOUBLE", meter, 3, Check.real(Double.POSITIVE_INFINITY));
            feedIsGreat("an endless DOUBLE below 0", meter, 3, Check.real(Double.NEGATIVE_INFINITY));
        }
    }

    private static void feedIsGreatInTurning() {
        CHECK.sentence("6 GREAT: what a number was TURNED into is ENDLESS; Promise 15: GREAT");
        double half = Float.MAX_VALUE + Math.ulp(Float.MAX_VALUE) / 2.0;
        feedIsGreat("1e300 to a SINGLE", 2, 3, Check.real(1e300));
        feedIsGreat("-1e300 to a SINGLE", 2, 3, Check.real(-1e300));
        feedIsGreat("half a step above the greatest to a SINGLE", 2, 3, Check.real(-half));
        dueFeed(2, Check.single(Float.MAX_VALUE), 3, Check.real(Math.nextDown(half)), 0);
    }

    private static void feedIsGreatInTheSum() {
        CHECK.sentence("6 GREAT: the sum is ENDLESS; Promise 15: GREAT");
        feedIsGreat("a sum of SINGLES", 2, 2, Check.single(3e38f));
        feedIsGreat("a sum of SINGLES of a DOUBLE", 2, 3, Check.real(3e38));
        feedIsGreat("a sum of DOUBLES", 3, 3, Check.real(1.7e308));
    }

    /** A new METER counts the bits and is logged at place 1 of three. */
    private static void dueLog(int form, long bits, int rowForm, long want) {
        MeterHall hall = new MeterHall();
        hall.meter(form, Halls.LIMITS[form] == 1000 ? Integer.MIN_VALUE : Halls.LIMITS[form]);
        hall.count(0, bits);
        hall.track(0, rowForm, 3);
        CHECK.due("log of " + bits + " of FORM " + form, hall.log(0, 0, rowForm, 1), 1);
        CHECK.dueRead(hall, 0, rowForm, 0, 0);
        CHECK.dueRead(hall, 0, rowForm, 1, want);
        CHECK.dueRead(hall, 0, rowForm, 2, 0);
        CHECK.due("VALUE behind it", hall.value(0, 0), bits);
    }

    private static void logWritesTheValue() {
        CHECK.sentence("Promise 16: VALUE of a METER comes to place i of it: 1.");
        dueLog(0, -7, 2, Check.single(-7f));
        dueLog(0, Integer.MAX_VALUE, 3, Check.real(Integer.MAX_VALUE));
        dueLog(1, -7, 2, Check.single(-7f));
        dueLog(2, Check.single(-0.1f), 2, Check.single(-0.1f));
        dueLog(3, Check.real(-0.1), 3, Check.real(-0.1));
        MeterHall hall = Halls.furnished();
        CHECK.due("log to a shared ROW", hall.log(2, Halls.SHARED, 2, 0), 1);
        CHECK.dueRead(hall, Halls.SINGLES, 2, 0, Check.single(3.5f));
        CHECK.due("log to the last place", hall.log(3, Halls.DOUBLES, 3, 1), 1);
        CHECK.dueRead(hall, Halls.DOUBLES, 3, 1, Check.real(-1e20));
    }

    private static void logTurnsTheValue() {
        CHECK.sentence("Promise 16: VALUE of a METER, TURNED into FORM 2 or 3, as which a TRACK is taken");
        dueLog(0, 16777217, 2, Check.single(16777216f));
        dueLog(1, (1L << 53) + 3, 3, Check.real(0x1p53 + 4));
        dueLog(1, Long.MAX_VALUE - 1, 2, Check.single(0x1p63f));
        dueLog(2, Check.single(Float.MIN_VALUE), 3, Check.real(Float.MIN_VALUE));
        dueLog(3, Check.real(-1e-300), 2, Check.single(-0f));
        dueLog(3, Check.real(0.1), 2, Check.single(0.1f));
    }

    private static void logOfWhatTurnsEndless() {
        CHECK.sentence("Promise 16: UNKNOWN: both; OUTSIDE; CAST; NOTHING; PLACE. (no GREAT, and a place may be ENDLESS)");
        dueLog(3, Check.real(1e300), 2, Check.single(Float.POSITIVE_INFINITY));
        dueLog(3, Check.real(-1e300), 2, Check.single(Float.NEGATIVE_INFINITY));
        MeterHall hall = Halls.high();
        hall.log(3, Halls.SINGLES, 2, 1);
        CHECK.due("told(8)", hall.told(8), 0);
    }

    /** feed and log list the same refusals, but for GREAT. */
    private static void bothRefuse(int why, int meter, int track, int form, int i) {
        String numbers = "(" + meter + ", " + track + ", " + form + ", " + i + ")";
        TWINS.refused("feed" + numbers, Halls::high, why, hall -> hall.feed(meter, track, form, i));
        TWINS.refused("log" + numbers, Halls::high, why, hall -> hall.log(meter, track, form, i));
    }

    private static void feedAndLogRefuse() {
        CHECK.sentence("Promises 15 and 16, UNKNOWN: both");
        for (int meter : NO_METERS) {
            bothRefuse(UNKNOWN, meter, 0, 2, 1);
        }
        for (int track : NO_TRACKS) {
            bothRefuse(UNKNOWN, 0, track, 2, 1);
        }
        CHECK.sentence("Promises 15 and 16: a FORM (2, 3); OUTSIDE");
        for (int form : NO_TRACK_FORMS) {
            bothRefuse(OUTSIDE, 0, 0, form, 1);
        }
        CHECK.sentence("Promises 15 and 16: CAST");
        for (int meter = 0; meter < 4; meter++) {
            bothRefuse(CAST, meter, 0, 3, 1);
            bothRefuse(CAST, meter, 1, 2, 1);
        }
        CHECK.sentence("1 CAST: (NOTHING passes); Promises 15 and 16: NOTHING");
        bothRefuse(NOTHING, 0, 3, 2, 0);
        bothRefuse(NOTHING, 0, 3, 3, 0);
        CHECK.sentence("Promises 15 and 16: PLACE");
        for (int i : NO_PLACES) {
            bothRefuse(PLACE, 0, 0, 2, i);
            bothRefuse(PLACE, 3, 1, 3, i);
        }
    }

    private static void feedAndLogRefuseInOrder() {
        CHECK.sentence("UNKNOWN, OUTSIDE: the first of these that fits, ahead of FINDINGS (feed and log)");
        bothRefuse(UNKNOWN, 4, 0, 1, 1);
        bothRefuse(UNKNOWN, 0, 12, 1, 1);
        bothRefuse(UNKNOWN, 4, 0, 3, 1);
        bothRefuse(UNKNOWN, 4, 3, 2, 1);
        bothRefuse(UNKNOWN, 4, 0, 2, 9);
        bothRefuse(OUTSIDE, 0, 3, 1, 0);
        bothRefuse(OUTSIDE, 0, 0, 4, 9);
        CHECK.sentence("Promises 15 and 16: CAST; NOTHING; PLACE");
        bothRefuse(CAST, 0, 0, 3, Halls.PLACES);
        bothRefuse(CAST, 0, 1, 2, -1);
        bothRefuse(NOTHING, 0, 3, 2, 20);
        bothRefuse(NOTHING, 0, 3, 3, -1);
    }
}
