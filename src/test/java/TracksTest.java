/** Promises 9 (track), 10 (share), 11 (form), 12 (length), 13 (write), 14 (read), 15 (feed) and 16 (log). */
final class TracksTest {
    private static final Check CHECK = new Check();
    private static final int CAST = -41, PLACE = -42, NOTHING = -44, SIZE = -45, GREAT = -46;

    public static void main(String[] args) {
        trackMakesRows();
        trackRefusesInOrder();
        trackIsFullForEver();
        trackIsFullAtJustThreeThousand();
        shareGivesTheSameRow();
        formAndLength();
        writeAndRead();
        writeRefusesInOrder();
        readThrowsAndCountsNothing();
        feedCountsWhatIsThere();
        feedRefusesInOrder();
        logWritesTheValue();
        logRefusesInOrder();
        CHECK.done();
    }

    private static void trackMakesRows() {
        MeterHall hall = new MeterHall();
        CHECK.due("track(0, 2, 20)", hall.track(0, 2, 20), 1);
        CHECK.due("track(11, 3, 0)", hall.track(11, 3, 0), 1);
        CHECK.due("length(0, 2)", hall.length(0, 2), 20);
        CHECK.due("length(11, 3)", hall.length(11, 3), 0);
        CHECK.dueRead(hall, 0, 2, 19, "0");
        hall.write(0, 2, 0, Check.single(3f));
        CHECK.due("track(0, 3, 1), a new row", hall.track(0, 3, 1), 1);
        CHECK.dueRead(hall, 0, 3, 0, "0");
        CHECK.due("told(1)", hall.told(1), 2);
    }

    private static void trackRefusesInOrder() {
        MeterHall hall = new MeterHall();
        CHECK.due("track(-1, 2, 1)", hall.track(-1, 2, 1), MeterHall.UNKNOWN);
        CHECK.due("track(12, 9, 99)", hall.track(12, 9, 99), MeterHall.UNKNOWN);
        CHECK.due("track(0, 1, 1)", hall.track(0, 1, 1), MeterHall.OUTSIDE);
        CHECK.due("track(0, 4, -1)", hall.track(0, 4, -1), MeterHall.OUTSIDE);
        CHECK.due("track(0, 2, 21)", hall.track(0, 2, 21), MeterHall.OUTSIDE);
        CHECK.due("track(0, 3, -1)", hall.track(0, 3, -1), SIZE);
        CHECK.due("track(0, 3, least)", hall.track(0, 3, Integer.MIN_VALUE), SIZE);
        CHECK.due("form(0)", hall.form(0), MeterHall.NONE);
        CHECK.due("told(7)", hall.told(7), 2);
    }

    private static void trackIsFullForEver() {
        MeterHall hall = new MeterHall();
        for (int k = 0; k < 149; k++) {
            hall.track(k % 12, 2 + k % 2, 20);
        }
        hall.track(0, 2, -20);
        hall.track(0, 2, 21);
        CHECK.due("to 2999 places", hall.track(0, 2, 19), 1);
        CHECK.due("to 3019 places", hall.track(1, 2, 20), 1);
        CHECK.due("one more", hall.track(2, 2, 1), MeterHall.FULL);
        CHECK.due("none more", hall.track(2, 2, 0), MeterHall.FULL);
        CHECK.due("a size below 0", hall.track(2, 2, -1), MeterHall.FULL);
        CHECK.due("too many places", hall.track(2, 2, 21), MeterHall.OUTSIDE);
        hall.clear();
        CHECK.due("behind clear()", hall.track(2, 2, 1), MeterHall.FULL);
        CHECK.due("told(7)", hall.told(7), 0);
    }

    private static void trackIsFullAtJustThreeThousand() {
        MeterHall hall = new MeterHall();
        for (int k = 0; k < 150; k++) {
            CHECK.due("track " + k, hall.track(k % 12, 3, 20), 1);
        }
        CHECK.due("at 3000 places", hall.track(0, 3, 1), MeterHall.FULL);
        CHECK.due("what it held is still there", hall.length(0, 3), 20);
    }

    private static void shareGivesTheSameRow() {
        MeterHall hall = new MeterHall();
        hall.track(0, 3, 2);
        CHECK.due("share(1, 0)", hall.share(1, 0), 0);
        CHECK.due("share(1, 0) again", hall.share(1, 0), 1);
        hall.write(1, 3, 1, Check.real(2.5));
        CHECK.dueRead(hall, 0, 3, 1, Long.toString(Check.real(2.5)));
        CHECK.due("told(1)", hall.told(1), 2);
        hall.track(0, 2, 1);
        CHECK.due("the other one keeps its row", hall.form(1), 3);
        CHECK.due("share(1, 1)", hall.share(1, 1), 1);
        CHECK.due("form(1)", hall.form(1), 3);
        CHECK.due("share(1, 5), which holds nothing", hall.share(1, 5), 1);
        CHECK.due("form(1)", hall.form(1), MeterHall.NONE);
        CHECK.due("share(1, NONE)", hall.share(1, MeterHall.NONE), 0);
        CHECK.due("share(0, NONE)", hall.share(0, MeterHall.NONE), 1);
        CHECK.due("form(0)", hall.form(0), MeterHall.NONE);
        hall.track(0, 2, 1);
        int[][] wrong = {{-1, 0}, {12, 0}, {0, -1}, {0, 12}, {MeterHall.NONE, 0}, {0, -4}, {0, -6}};
        for (int[] pair : wrong) {
            CHECK.due("share(" + pair[0] + ", " + pair[1] + ")", hall.share(pair[0], pair[1]), MeterHall.UNKNOWN);
        }
        CHECK.due("told(1)", hall.told(1), 1);
    }

    private static void formAndLength() {
        MeterHall hall = new MeterHall();
        hall.track(0, 2, 3);
        hall.track(1, 3, 4);
        CHECK.due("form(0)", hall.form(0), 2);
        CHECK.due("form(1)", hall.form(1), 3);
        CHECK.due("form(2)", hall.form(2), MeterHall.NONE);
        CHECK.due("form(-1)", hall.form(-1), MeterHall.UNKNOWN);
        CHECK.due("form(12)", hall.form(12), MeterHall.UNKNOWN);
        CHECK.due("length(0, 2)", hall.length(0, 2), 3);
        CHECK.due("length(1, 3)", hall.length(1, 3), 4);
        CHECK.due("length(1, 2)", hall.length(1, 2), CAST);
        CHECK.due("length(2, 2)", hall.length(2, 2), NOTHING);
        CHECK.due("length(0, 1)", hall.length(0, 1), MeterHall.OUTSIDE);
        CHECK.due("length(2, 4)", hall.length(2, 4), MeterHall.OUTSIDE);
        CHECK.due("length(12, 4)", hall.length(12, 4), MeterHall.UNKNOWN);
        CHECK.due("told(3)", hall.told(3), 1);
        CHECK.due("told(6)", hall.told(6), 1);
    }

    private static void writeAndRead() {
        MeterHall hall = new MeterHall();
        hall.track(0, 2, 3);
        hall.track(1, 3, 3);
        float[] singles = {-0f, Float.NEGATIVE_INFINITY, Float.MIN_VALUE};
        double[] doubles = {-0.0, Double.POSITIVE_INFINITY, -1e300};
        for (int i = 0; i < 3; i++) {
            CHECK.due("write(0, 2, " + i + ")", hall.write(0, 2, i, Check.single(singles[i])), 1);
            CHECK.due("write(1, 3, " + i + ")", hall.write(1, 3, i, Check.real(doubles[i])), 1);
        }
        for (int i = 0; i < 3; i++) {
            CHECK.dueRead(hall, 0, 2, i, Long.toString(Check.single(singles[i])));
            CHECK.dueRead(hall, 1, 3, i, Long.toString(Check.real(doubles[i])));
        }
    }

    private static void writeRefusesInOrder() {
        MeterHall hall = new MeterHall();
        hall.track(0, 2, 3);
        CHECK.due("no such track", hall.write(12, 9, 9, 1L << 40), MeterHall.UNKNOWN);
        CHECK.due("no such track", hall.write(-1, 2, 0, 0), MeterHall.UNKNOWN);
        CHECK.due("no form of a track", hall.write(0, 1, 0, 0), MeterHall.OUTSIDE);
        CHECK.due("no form of a track", hall.write(1, 4, 0, 0), MeterHall.OUTSIDE);
        CHECK.due("no bits of a single", hall.write(0, 2, 9, 1L << 31), MeterHall.OUTSIDE);
        CHECK.due("no number", hall.write(1, 2, 0, Check.single(Float.NaN)), MeterHall.OUTSIDE);
        CHECK.due("no number, a cast", hall.write(0, 3, 0, Check.real(Double.NaN)), MeterHall.OUTSIDE);
        CHECK.due("a cast, ahead of no place", hall.write(0, 3, 9, 0), CAST);
        CHECK.due("nothing there", hall.write(1, 3, -9, 0), NOTHING);
        CHECK.due("no place", hall.write(0, 2, 3, 0), PLACE);
        CHECK.due("no place", hall.write(0, 2, Integer.MIN_VALUE, 0), PLACE);
        CHECK.due("told(3)", hall.told(3), 1);
        CHECK.due("told(4)", hall.told(4), 2);
        CHECK.due("told(6)", hall.told(6), 1);
    }

    private static void readThrowsAndCountsNothing() {
        MeterHall hall = new MeterHall();
        hall.track(0, 2, 3);
        hall.track(1, 3, 0);
        hall.value(0, 0);
        CHECK.dueRead(hall, 12, 2, 0, "0");
        CHECK.dueRead(hall, -1, 2, 0, "0");
        CHECK.dueRead(hall, 0, 1, 0, "0");
        CHECK.dueRead(hall, 5, 4, 0, "0");
        CHECK.dueRead(hall, 0, 3, 9, "ClassCastException");
        CHECK.dueRead(hall, 1, 2, 0, "ClassCastException");
        CHECK.dueRead(hall, 5, 2, -1, "NullPointerException");
        CHECK.dueRead(hall, 5, 3, 0, "NullPointerException");
        CHECK.dueRead(hall, 0, 2, 3, "ArrayIndexOutOfBoundsException");
        CHECK.dueRead(hall, 0, 2, -1, "ArrayIndexOutOfBoundsException");
        CHECK.dueRead(hall, 1, 3, 0, "ArrayIndexOutOfBoundsException");
        CHECK.dueRead(hall, 0, 2, 2, "0");
        for (int what = 3; what <= 8; what++) {
            CHECK.due("told(" + what + ")", hall.told(what), 0);
        }
        CHECK.due("finding(), which read leaves alone", hall.finding(), MeterHall.UNKNOWN);
    }

    private static MeterHall fourMetersAndTwoTracks() {
        MeterHall hall = new MeterHall();
        hall.meter(0, 1000);
        hall.meter(1, 1000);
        hall.meter(2, Check.single(Float.MAX_VALUE));
        hall.meter(3, Check.real(Double.MAX_VALUE));
        hall.track(0, 2, 2);
        hall.track(1, 3, 2);
        return hall;
    }

    private static void feedCountsWhatIsThere() {
        MeterHall hall = fourMetersAndTwoTracks();
        hall.write(0, 2, 0, Check.single(-2.75f));
        hall.write(1, 3, 1, Check.real(1e20));
        long[] afterFirst = {-2, -2, Check.single(-2.75f), Check.real(-2.75)};
        long[] afterSecond = {(Integer.MAX_VALUE - 2) % 1000, (Long.MAX_VALUE - 2) % 1000, Check.single(1e20f),
            Check.real(1e20)};
        for (int meter = 0; meter < 4; meter++) {
            CHECK.due("feed(" + meter + ", 0, 2, 0)", hall.feed(meter, 0, 2, 0), 1);
            CHECK.due("value behind it", hall.value(meter, 0), afterFirst[meter]);
            CHECK.due("feed(" + meter + ", 1, 3, 1)", hall.feed(meter, 1, 3, 1), 1);
            CHECK.due("value behind it", hall.value(meter, 0), afterSecond[meter]);
        }
    }

    private static void feedRefusesInOrder() {
        MeterHall hall = fourMetersAndTwoTracks();
        CHECK.due("no such meter", hall.feed(4, 0, 9, 9), MeterHall.UNKNOWN);
        CHECK.due("no such track", hall.feed(0, 12, 9, 9), MeterHall.UNKNOWN);
        CHECK.due("no meter", hall.feed(MeterHall.NONE, 0, 2, 0), MeterHall.UNKNOWN);
        CHECK.due("no form of a track", hall.feed(0, 0, 0, 0), MeterHall.OUTSIDE);
        CHECK.due("a cast, ahead of no place", hall.feed(0, 0, 3, 9), CAST);
        CHECK.due("nothing there", hall.feed(0, 2, 3, 9), NOTHING);
        CHECK.due("no place", hall.feed(0, 0, 2, 2), PLACE);
        CHECK.due("no place", hall.feed(0, 1, 3, -1), PLACE);
        hall.write(0, 2, 0, Check.single(Float.NEGATIVE_INFINITY));
        hall.write(1, 3, 0, Check.real(1e300));
        CHECK.due("an endless one to a single", hall.feed(2, 0, 2, 0), GREAT);
        CHECK.due("an endless one to a double", hall.feed(3, 0, 2, 0), GREAT);
        CHECK.due("what turns endless", hall.feed(2, 1, 3, 0), GREAT);
        hall.count(3, Check.real(Double.MAX_VALUE / 2));
        hall.write(1, 3, 1, Check.real(Double.MAX_VALUE));
        CHECK.due("an endless sum", hall.feed(3, 1, 3, 1), GREAT);
        CHECK.due("value as it was", hall.value(2, 0), 0);
        CHECK.due("value as it was", hall.value(3, 0), Check.real(Double.MAX_VALUE / 2));
        CHECK.due("an endless one to a whole", hall.feed(0, 0, 2, 0), 1);
        CHECK.due("value behind it", hall.value(0, 0), Integer.MIN_VALUE % 1000);
        CHECK.due("told(8)", hall.told(8), 4);
    }

    private static void logWritesTheValue() {
        MeterHall hall = fourMetersAndTwoTracks();
        hall.count(0, -7);
        hall.count(3, Check.real(1e300));
        CHECK.due("log(0, 0, 2, 1)", hall.log(0, 0, 2, 1), 1);
        CHECK.dueRead(hall, 0, 2, 1, Long.toString(Check.single(-7f)));
        CHECK.due("log(0, 1, 3, 0)", hall.log(0, 1, 3, 0), 1);
        CHECK.dueRead(hall, 1, 3, 0, Long.toString(Check.real(-7)));
        CHECK.due("log(3, 1, 3, 1)", hall.log(3, 1, 3, 1), 1);
        CHECK.dueRead(hall, 1, 3, 1, Long.toString(Check.real(1e300)));
        // The promise lists no GREAT, and a track may hold an endless one.
        CHECK.due("log of what turns endless", hall.log(3, 0, 2, 0), 1);
        CHECK.dueRead(hall, 0, 2, 0, Long.toString(Check.single(Float.POSITIVE_INFINITY)));
        CHECK.due("told(8)", hall.told(8), 0);
        CHECK.due("the meter is as it was", hall.value(3, 0), Check.real(1e300));
    }

    private static void logRefusesInOrder() {
        MeterHall hall = fourMetersAndTwoTracks();
        hall.count(0, 5);
        CHECK.due("no such meter", hall.log(4, 0, 9, 9), MeterHall.UNKNOWN);
        CHECK.due("no such track", hall.log(0, -1, 9, 9), MeterHall.UNKNOWN);
        CHECK.due("no form of a track", hall.log(0, 2, 1, 0), MeterHall.OUTSIDE);
        CHECK.due("a cast, ahead of no place", hall.log(0, 1, 2, 9), CAST);
        CHECK.due("nothing there", hall.log(0, 2, 2, 9), NOTHING);
        CHECK.due("no place", hall.log(0, 0, 2, 2), PLACE);
        CHECK.due("no place", hall.log(0, 0, 2, -1), PLACE);
        CHECK.dueRead(hall, 0, 2, 0, "0");
        CHECK.dueRead(hall, 0, 2, 1, "0");
    }
}
