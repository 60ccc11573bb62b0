/** The document's sentences on TRACKS, and promises 9 (track), 10 (share), 11 (form), 12 (length), 13 (write), 14 (read). */
final class TracksTest {
    private static final Check CHECK = new Check();
    private static final Twins TWINS = new Twins(CHECK);
    private static final int UNKNOWN = MeterHall.UNKNOWN, OUTSIDE = MeterHall.OUTSIDE, FULL = MeterHall.FULL,
        NONE = MeterHall.NONE;
    private static final int CAST = -41, PLACE = -42, NOTHING = -44, SIZE = -45;
    private static final int[] NO_TRACKS = {-1, 12, -6, Integer.MIN_VALUE, Integer.MAX_VALUE};
    private static final int[] NO_TRACK_FORMS = {-1, 0, 1, 4, NONE, Integer.MIN_VALUE, Integer.MAX_VALUE};
    private static final int[] NO_PLACES = {-1, Halls.PLACES, 20, Integer.MIN_VALUE, Integer.MAX_VALUE};

    public static void main(String[] args) {
        tracksHoldNothingAtFirst();
        trackMakesARowOfZeros();
        trackMakesANewRow();
        trackTakesTwentyPlacesAtMost();
        trackIsUnknown();
        trackIsOutside();
        trackIsFull();
        placesMadeEverAreCounted();
        refusedTracksMakeNoPlaces();
        trackIsOfASizeBelowZero();
        shareGivesTheSameRow();
        shareTellsWhatWasHeld();
        shareOfNothing();
        shareIsUnknown();
        formTells();
        formIsUnknown();
        lengthTells();
        lengthRefuses();
        writeAndReadEveryPlace();
        writeRefuses();
        writeRefusesInOrder();
        readIsZero();
        readThrows();
        readThrowsInOrder();
        CHECK.done();
    }

    private static void tracksHoldNothingAtFirst() {
        CHECK.sentence("TRACKS 0 .. 11 each hold a ROW of SINGLES or of DOUBLES, or NOTHING (at first).");
        MeterHall hall = new MeterHall();
        for (int track = 0; track < 12; track++) {
            CHECK.due("form(" + track + ")", hall.form(track), NONE);
            CHECK.due("track(" + track + ")", hall.track(track, 2 + track % 2, track), 1);
            CHECK.due("told(1)", hall.told(1), track + 1);
        }
        for (int track = 0; track < 12; track++) {
            CHECK.due("form(" + track + ")", hall.form(track), 2 + track % 2);
            CHECK.due("length(" + track + ")", hall.length(track, 2 + track % 2), track);
        }
    }

    private static void trackMakesARowOfZeros() {
        CHECK.sentence("Promise 9: a new ROW with n places (20 at most; 0.0 in each): 1.");
        MeterHall hall = new MeterHall();
        for (int form = 2; form < 4; form++) {
            CHECK.due("track(0, " + form + ", 20)", hall.track(0, form, 20), 1);
            for (int i = 0; i < 20; i++) {
                CHECK.dueRead(hall, 0, form, i, 0);
            }
        }
    }

    private static void trackMakesANewRow() {
        CHECK.sentence("Promise 9: A TRACK holds a new ROW");
        MeterHall hall = new MeterHall();
        hall.track(0, 2, 2);
        hall.share(1, 0);
        hall.write(0, 2, 1, Check.single(3f));
        CHECK.due("track(0, 2, 2) again", hall.track(0, 2, 2), 1);
        CHECK.dueRead(hall, 0, 2, 1, 0);
        CHECK.dueRead(hall, 1, 2, 1, Check.single(3f));
        CHECK.due("track(0, 3, 1)", hall.track(0, 3, 1), 1);
        CHECK.due("form(0)", hall.form(0), 3);
        CHECK.due("length(0, 3)", hall.length(0, 3), 1);
        CHECK.due("form(1)", hall.form(1), 2);
        CHECK.due("told(1)", hall.told(1), 2);
    }

    private static void trackTakesTwentyPlacesAtMost() {
        CHECK.sentence("Promise 9: n places (20 at most); OUTSIDE");
        MeterHall hall = new MeterHall();
        CHECK.due("track(0, 2, 0)", hall.track(0, 2, 0), 1);
        CHECK.due("length(0, 2)", hall.length(0, 2), 0);
        CHECK.due("track(0, 3, 20)", hall.track(0, 3, 20), 1);
        CHECK.due("length(0, 3)", hall.length(0, 3), 20);
        int[] wrong = {21, 22, 3000, Integer.MAX_VALUE};
        for (int n : wrong) {
            for (int track = 0; track < 4; track++) {
                int one = track;
                TWINS.refused("track of " + n, Halls::furnished, OUTSIDE, x -> x.track(one, 2 + one % 2, n));
            }
        }
    }

    private static void trackIsUnknown() {
        CHECK.sentence("UNKNOWN (a TRACK not 0 .. 11); Promise 9: UNKNOWN");
        for (int track : NO_TRACKS) {
            TWINS.refused("track(" + track + ", 2, 1)", Halls::furnished, UNKNOWN, hall -> hall.track(track, 2, 1));
        }
        TWINS.refused("track(NONE, 2, 1)", Halls::furnished, UNKNOWN, hall -> hall.track(NONE, 2, 1));
        CHECK.sentence("UNKNOWN, OUTSIDE, FULL: the first of these that fits, ahead of FINDINGS");
        TWINS.refused("track(12, 1, 1)", Halls::furnished, UNKNOWN, hall -> hall.track(12, 1, 1));
        TWINS.refused("track(12, 2, 21)", Halls::furnished, UNKNOWN, hall -> hall.track(12, 2, 21));
        TWINS.refused("track(12, 2, -1)", Halls::furnished, UNKNOWN, hall -> hall.track(12, 2, -1));
        TWINS.refused("track(12, 2, 1) at full", Halls::fullOfPlaces, UNKNOWN, hall -> hall.track(12, 2, 1));
    }

    private static void trackIsOutside() {
        CHECK.sentence("Promise 9: SINGLES (FORM 2) or DOUBLES (3); OUTSIDE");
        for (int form : NO_TRACK_FORMS) {
            TWINS.refused("track(0, " + form + ", 1)", Halls::furnished, OUTSIDE, hall -> hall.track(0, form, 1));
        }
        CHECK.sentence("OUTSIDE, FULL: the first of these that fits, ahead of FINDINGS");
        TWINS.refused("track(0, 1, -1)", Halls::furnished, OUTSIDE, hall -> hall.track(0, 1, -1));
        TWINS.refused("track(0, 1, 1) at full", Halls::fullOfPlaces, OUTSIDE, hall -> hall.track(0, 1, 1));
        TWINS.refused("track(0, 2, 21) at full", Halls::fullOfPlaces, OUTSIDE, hall -> hall.track(0, 2, 21));
    }

    private static void trackIsFull() {
        CHECK.sentence("Promise 9, FULL: 3000 places or more were made ever, ahead of this one");
        TWINS.refused("at 3000", Halls::fullOfPlaces, FULL, hall -> hall.track(0, 2, 1));
        TWINS.refused("at 3000, in an empty one", Halls::fullOfPlaces, FULL, hall -> hall.track(11, 3, 20));
        TWINS.refused("at 3000, of no place", Halls::fullOfPlaces, FULL, hall -> hall.track(11, 3, 0));
        MeterHall hall = Halls.withPlacesMade(2999);
        CHECK.due("at 2999", hall.track(11, 2, 20), 1);
        CHECK.due("its length", hall.length(11, 2), 20);
        CHECK.due("at 3019", hall.track(11, 2, 1), FULL);
        hall = Halls.withPlacesMade(2999);
        CHECK.due("at 2999, of no place", hall.track(11, 2, 0), 1);
        CHECK.due("at 2999, of one", hall.track(11, 2, 1), 1);
        CHECK.due("at 3000", hall.track(11, 2, 1), FULL);
        CHECK.sentence("FULL: ahead of FINDINGS");
        TWINS.refused("a size below 0", Halls::fullOfPlaces, FULL, x -> x.track(0, 2, -1));
    }

    private static void placesMadeEverAreCounted() {
        CHECK.sentence("Promise 9: places were made ever; they are, when no TRACK holds them");
        MeterHall hall = new MeterHall();
        for (int k = 0; k < 150; k++) {
            CHECK.due("track " + k, hall.track(0, 2 + k % 2, 20), 1);
            hall.share(0, NONE);
        }
        CHECK.due("told(1)", hall.told(1), 0);
        CHECK.due("track at 3000", hall.track(0, 2, 1), FULL);
        CHECK.due("what is held by another one is not made", hall.share(0, 1), 0);
    }

    private static void refusedTracksMakeNoPlaces() {
        CHECK.sentence("Refused, and nothing changes; With a FINDING nothing is changed: places made ever, too");
        MeterHall hall = Halls.withPlacesMade(2999);
        hall.track(0, 2, -20);
        hall.track(0, 2, 21);
        hall.track(0, 1, 20);
        hall.track(12, 2, 20);
        hall.share(1, 0);
        CHECK.due("at 2999 still", hall.track(0, 2, 1), 1);
        CHECK.due("at 3000 now", hall.track(0, 2, 1), FULL);
        hall.track(0, 2, -1);
        CHECK.due("at 3000 still", hall.track(0, 2, 1), FULL);
    }

    private static void trackIsOfASizeBelowZero() {
        CHECK.sentence("5 SIZE: a size below 0; Promise 9: SIZE");
        int[] sizes = {-1, -20, -21, Integer.MIN_VALUE};
        for (int n : sizes) {
            TWINS.refused("track(0, 2, " + n + ")", Halls::furnished, SIZE, hall -> hall.track(0, 2, n));
            TWINS.refused("track(1, 3, " + n + ")", Halls::furnished, SIZE, hall -> hall.track(1, 3, n));
            TWINS.refused("track(3, 3, " + n + ")", Halls::furnished, SIZE, hall -> hall.track(3, 3, n));
        }
    }

    private static void shareGivesTheSameRow() {
        CHECK.sentence("Promise 10: A TRACK holds what another one holds (the same ROW)");
        MeterHall hall = new MeterHall();
        hall.track(0, 3, 2);
        hall.write(0, 3, 0, Check.real(1.5));
        hall.share(11, 0);
        CHECK.due("form(11)", hall.form(11), 3);
        CHECK.due("length(11, 3)", hall.length(11, 3), 2);
        CHECK.dueRead(hall, 11, 3, 0, Check.real(1.5));
        hall.write(11, 3, 1, Check.real(2.5));
        CHECK.dueRead(hall, 0, 3, 1, Check.real(2.5));
        hall.write(0, 3, 1, Check.real(3.5));
        CHECK.dueRead(hall, 11, 3, 1, Check.real(3.5));
        CHECK.due("told(1)", hall.told(1), 2);
        hall.meter(0, 100);
        hall.count(0, 9);
        hall.log(0, 11, 3, 0);
        CHECK.dueRead(hall, 0, 3, 0, Check.real(9));
    }

    private static void shareTellsWhatWasHeld() {
        CHECK.sentence("Promise 10: 1 if it held a ROW, else 0.");
        MeterHall hall = new MeterHall();
        hall.track(0, 3, 2);
        hall.track(1, 2, 0);
        CHECK.due("share(2, 0), which held none", hall.share(2, 0), 0);
        CHECK.due("share(2, 0), which held one", hall.share(2, 0), 1);
        CHECK.due("share(0, 1), which held another", hall.share(0, 1), 1);
        CHECK.due("form(0)", hall.form(0), 2);
        CHECK.due("form(2)", hall.form(2), 3);
        CHECK.due("share(0, 0)", hall.share(0, 0), 1);
        CHECK.due("form(0)", hall.form(0), 2);
        CHECK.due("share(5, 5)", hall.share(5, 5), 0);
        CHECK.due("share(1, 0), of no place", hall.share(1, 0), 1);
    }

    private static void shareOfNothing() {
        CHECK.sentence("Promise 10: (NONE: NOTHING)");
        MeterHall hall = new MeterHall();
        hall.track(0, 3, 2);
        hall.share(1, 0);
        CHECK.due("share(0, NONE)", hall.share(0, NONE), 1);
        CHECK.due("form(0)", hall.form(0), NONE);
        CHECK.due("form(1) still", hall.form(1), 3);
        CHECK.due("share(0, NONE) again", hall.share(0, NONE), 0);
        CHECK.due("share(1, 7), which holds NOTHING", hall.share(1, 7), 1);
        CHECK.due("form(1)", hall.form(1), NONE);
        CHECK.due("told(1)", hall.told(1), 0);
        for (int what = 3; what <= 8; what++) {
            CHECK.due("told(" + what + ")", hall.told(what), 0);
        }
    }

    private static void shareIsUnknown() {
        CHECK.sentence("Promise 10, UNKNOWN: both.");
        for (int track : NO_TRACKS) {
            TWINS.refused("share(" + track + ", 0)", Halls::furnished, UNKNOWN, hall -> hall.share(track, 0));
            TWINS.refused("share(" + track + ", NONE)", Halls::furnished, UNKNOWN, hall -> hall.share(track, NONE));
            TWINS.refused("share(1, " + track + ")", Halls::furnished, UNKNOWN, hall -> hall.share(1, track));
        }
        TWINS.refused("share(NONE, 0)", Halls::furnished, UNKNOWN, hall -> hall.share(NONE, 0));
        TWINS.refused("share(0, -4)", Halls::furnished, UNKNOWN, hall -> hall.share(0, -4));
    }

    private static void formTells() {
        CHECK.sentence("Promise 11: FORM of the ROW that a TRACK holds; NONE.");
        MeterHall hall = Halls.furnished();
        CHECK.due("form of SINGLES", hall.form(Halls.SINGLES), 2);
        CHECK.due("form of DOUBLES", hall.form(Halls.DOUBLES), 3);
        CHECK.due("form of a shared one", hall.form(Halls.SHARED), 2);
        CHECK.due("form of NOTHING", hall.form(Halls.EMPTY), NONE);
        hall.track(Halls.EMPTY, 3, 0);
        CHECK.due("form of a ROW without places", hall.form(Halls.EMPTY), 3);
    }

    private static void formIsUnknown() {
        CHECK.sentence("Promise 11: UNKNOWN.");
        for (int track : NO_TRACKS) {
            TWINS.refused("form(" + track + ")", Halls::furnished, UNKNOWN, hall -> hall.form(track));
        }
        TWINS.refused("form(NONE)", Halls::furnished, UNKNOWN, hall -> hall.form(NONE));
    }

    private static void lengthTells() {
        CHECK.sentence("Promise 12: How many places a TRACK has, taken for a FORM (2, 3).");
        MeterHall hall = new MeterHall();
        for (int n = 0; n <= 20; n++) {
            hall.track(n % 12, 2 + n % 2, n);
            CHECK.due("length of " + n, hall.length(n % 12, 2 + n % 2), n);
        }
    }

    private static void lengthRefuses() {
        CHECK.sentence("Promise 12: UNKNOWN");
        for (int track : NO_TRACKS) {
            TWINS.refused("length(" + track + ", 2)", Halls::furnished, UNKNOWN, hall -> hall.length(track, 2));
        }
        TWINS.refused("length(12, 1)", Halls::furnished, UNKNOWN, hall -> hall.length(12, 1));
        CHECK.sentence("Promise 12: OUTSIDE");
        for (int form : NO_TRACK_FORMS) {
            TWINS.refused("length(0, " + form + ")", Halls::furnished, OUTSIDE, hall -> hall.length(0, form));
            TWINS.refused("length(3, " + form + ")", Halls::furnished, OUTSIDE, hall -> hall.length(3, form));
        }
        CHECK.sentence("1 CAST: what is there is taken for a FORM that it is not; Promise 12: CAST");
        TWINS.refused("length(0, 3)", Halls::furnished, CAST, hall -> hall.length(0, 3));
        TWINS.refused("length(1, 2)", Halls::furnished, CAST, hall -> hall.length(1, 2));
        TWINS.refused("length(2, 3)", Halls::furnished, CAST, hall -> hall.length(2, 3));
        CHECK.sentence("1 CAST: (NOTHING passes). 4 NOTHING; Promise 12: NOTHING");
        TWINS.refused("length(3, 2)", Halls::furnished, NOTHING, hall -> hall.length(3, 2));
        TWINS.refused("length(3, 3)", Halls::furnished, NOTHING, hall -> hall.length(3, 3));
    }

    private static void writeAndReadEveryPlace() {
        CHECK.sentence("Promise 13: Place i becomes the number told by BITS of that (ENDLESS, too): 1; Promise 14: BITS");
        float[] singles = {0f, -0f, Float.POSITIVE_INFINITY, Float.NEGATIVE_INFINITY, Float.MIN_VALUE, -Float.MAX_VALUE};
        double[] doubles = {0, -0.0, Double.POSITIVE_INFINITY, Double.NEGATIVE_INFINITY, Double.MIN_VALUE, -1e300};
        MeterHall hall = new MeterHall();
        hall.track(0, 2, 20);
        hall.track(1, 3, 20);
        for (int i = 0; i < 20; i++) {
            CHECK.due("write(0, 2, " + i + ")", hall.write(0, 2, i, Check.single(singles[i % 6])), 1);
            CHECK.due("write(1, 3, " + i + ")", hall.write(1, 3, i, Check.real(doubles[i % 6])), 1);
        }
        for (int i = 0; i < 20; i++) {
            CHECK.dueRead(hall, 0, 2, i, Check.single(singles[i % 6]));
            CHECK.dueRead(hall, 1, 3, i, Check.real(doubles[i % 6]));
        }
    }

    private static void writeRefused(int why, int track, int form, int i, long bits) {
        String call = "write(" + track + ", " + form + ", " + i + ", " + bits + ")";
        TWINS.refused(call, Halls::furnished, why, hall -> hall.write(track, form, i, bits));
    }

    private static void writeRefuses() {
        CHECK.sentence("Promise 13: UNKNOWN");
        for (int track : NO_TRACKS) {
            writeRefused(UNKNOWN, track, 2, 0, 0);
        }
        CHECK.sentence("Promise 13: a FORM (2, 3); OUTSIDE");
        for (int form : NO_TRACK_FORMS) {
            writeRefused(OUTSIDE, 0, form, 0, 5);
        }
        CHECK.sentence("Promise 13: BITS of that; OUTSIDE");
        writeRefused(OUTSIDE, 0, 2, 0, 1L << 31);
        writeRefused(OUTSIDE, 0, 2, 0, Check.single(Float.NaN));
        writeRefused(OUTSIDE, 1, 3, 0, Check.real(Double.NaN));
        CHECK.sentence("Promise 13: CAST");
        writeRefused(CAST, 0, 3, 0, 5);
        writeRefused(CAST, 1, 2, 0, 5);
        CHECK.sentence("1 CAST: (NOTHING passes); Promise 13: NOTHING");
        writeRefused(NOTHING, 3, 2, 0, 5);
        writeRefused(NOTHING, 3, 3, 0, 5);
        CHECK.sentence("2 PLACE: there is no such place; Promise 13: PLACE");
        for (int i : NO_PLACES) {
            writeRefused(PLACE, 0, 2, i, 5);
            writeRefused(PLACE, 1, 3, i, 5);
        }
        MeterHall hall = new MeterHall();
        hall.track(0, 2, 0);
        CHECK.due("write to a ROW without places", hall.write(0, 2, 0, 5), PLACE);
    }

    private static void writeRefusesInOrder() {
        CHECK.sentence("UNKNOWN, OUTSIDE: the first of these that fits, ahead of FINDINGS (write)");
        writeRefused(UNKNOWN, 12, 1, 0, 5);
        writeRefused(UNKNOWN, -1, 2, 9, 1L << 40);
        writeRefused(OUTSIDE, 0, 3, 0, Check.real(Double.NaN));
        writeRefused(OUTSIDE, 1, 2, 0, Check.real(1));
        writeRefused(OUTSIDE, 3, 2, 0, Check.single(Float.NaN));
        writeRefused(OUTSIDE, 3, 1, 0, 5);
        writeRefused(OUTSIDE, 0, 2, 9, 1L << 31);
        writeRefused(OUTSIDE, 0, 1, 9, 5);
        CHECK.sentence("Promise 13: CAST; NOTHING; PLACE.");
        writeRefused(CAST, 0, 3, Halls.PLACES, 5);
        writeRefused(CAST, 1, 2, -1, 5);
        writeRefused(NOTHING, 3, 2, 20, 5);
        writeRefused(NOTHING, 3, 3, -1, 5);
    }

    private static void readIsZero() {
        CHECK.sentence("Promise 14, 0: UNKNOWN, OUTSIDE.");
        for (int track : NO_TRACKS) {
            TWINS.refusedRead(Halls::furnished, "0", track, 2, 0);
            TWINS.refusedRead(Halls::furnished, "0", track, 1, 9);
        }
        for (int form : NO_TRACK_FORMS) {
            TWINS.refusedRead(Halls::furnished, "0", 0, form, 1);
            TWINS.refusedRead(Halls::furnished, "0", 3, form, 9);
        }
    }

    private static void readThrows() {
        CHECK.sentence("ClassCastException: CAST; read() counts none");
        TWINS.refusedRead(Halls::furnished, "ClassCastException", 0, 3, 0);
        TWINS.refusedRead(Halls::furnished, "ClassCastException", 1, 2, 1);
        TWINS.refusedRead(Halls::furnished, "ClassCastException", 2, 3, 0);
        CHECK.sentence("NullPointerException: NOTHING; read() counts none");
        TWINS.refusedRead(Halls::furnished, "NullPointerException", 3, 2, 0);
        TWINS.refusedRead(Halls::furnished, "NullPointerException", 11, 3, 0);
        CHECK.sentence("ArrayIndexOutOfBoundsException: PLACE; read() counts none");
        for (int i : NO_PLACES) {
            TWINS.refusedRead(Halls::furnished, "ArrayIndexOutOfBoundsException", 0, 2, i);
            TWINS.refusedRead(Halls::furnished, "ArrayIndexOutOfBoundsException", 1, 3, i);
        }
        MeterHall hall = new MeterHall();
        hall.track(0, 3, 0);
        CHECK.dueRead(hall, 0, 3, 0, "ArrayIndexOutOfBoundsException");
        hall.track(0, 3, 20);
        CHECK.dueRead(hall, 0, 3, 19, 0);
        CHECK.dueRead(hall, 0, 3, 20, "ArrayIndexOutOfBoundsException");
    }

    private static void readThrowsInOrder() {
        CHECK.sentence("ClassCastException: CAST; NullPointerException: NOTHING; ArrayIndexOutOfBoundsException: PLACE.");
        TWINS.refusedRead(Halls::furnished, "ClassCastException", 0, 3, 9);
        TWINS.refusedRead(Halls::furnished, "ClassCastException", 1, 2, -1);
        TWINS.refusedRead(Halls::furnished, "NullPointerException", 3, 2, 20);
        TWINS.refusedRead(Halls::furnished, "NullPointerException", 3, 3, -1);
    }
}
