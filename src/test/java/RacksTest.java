/** The document's sentences on RACKS, and promises 17 (rack), 18 (hang), 19 (shown), 20 (sum) and 21 (many). */
final class RacksTest {
    private static final Check CHECK = new Check();
    private static final Twins TWINS = new Twins(CHECK);
    private static final int UNKNOWN = MeterHall.UNKNOWN, OUTSIDE = MeterHall.OUTSIDE, FULL = MeterHall.FULL,
        NONE = MeterHall.NONE;
    private static final int CAST = -41, PLACE = -42, STORE = -43, NOTHING = -44, SIZE = -45;
    private static final int[] NO_METERS = {-1, 4, 24, -4, -6, Integer.MIN_VALUE, Integer.MAX_VALUE};
    private static final int[] NO_RACKS = {-1, 5, 11, 12, NONE, Integer.MIN_VALUE, Integer.MAX_VALUE};
    private static final int[] NO_RACK_FORMS = {-1, 5, NONE, Integer.MIN_VALUE, Integer.MAX_VALUE};
    private static final int[] NO_PLACES = {-1, Halls.RACK_PLACES, 10, Integer.MIN_VALUE, Integer.MAX_VALUE};

    public static void main(String[] args) {
        racksAreNumberedAsTheyAreMade();
        placesAreOfNothingAtFirst();
        rackTakesTenPlacesAtMost();
        rackIsOutside();
        rackIsFull();
        rackIsOfASizeBelowZero();
        aRackMayBeTakenForItsOwnFormAndForEach();
        hangOfNothing();
        hangTakesThePlaceOfAnother();
        theSameMeterHangsInMoreThanOnePlace();
        hangIsUnknownOrOutside();
        hangIsCast();
        hangIsPlace();
        hangIsStore();
        hangRefusesInOrder();
        shownTells();
        shownRefuses();
        sumGoesFromAPlaceToTheEnd();
        sumWraps();
        sumOfNoPlace();
        sumRefuses();
        sumStopsAtNothing();
        manyCountsOneForm();
        manyRefuses();
        CHECK.done();
    }

    /** METERS 0 .. 3 of the FORMS 0 .. 3, RACKS 0 .. 4 of the FORMS 0 .. 4, all places of NOTHING. */
    private static MeterHall withEmptyRacks() {
        MeterHall hall = Halls.withMeters();
        for (int form = 0; form <= 4; form++) {
            hall.rack(form, Halls.RACK_PLACES);
        }
        return hall;
    }

    private static void racksAreNumberedAsTheyAreMade() {
        CHECK.sentence("RACKS 0 .. 11; Promise 17: A RACK of a FORM 0 .. 4 with n places (10 at most): its number.");
        MeterHall hall = new MeterHall();
        for (int k = 0; k < 12; k++) {
            CHECK.due("rack " + k, hall.rack(k % 5, k % 11), k);
            CHECK.due("told(2)", hall.told(2), k + 1);
        }
        for (int k = 0; k < 12; k++) {
            int n = k % 11;
            CHECK.due("beyond the last place of " + k, hall.hang(k, k % 5, n, NONE), PLACE);
            CHECK.due("the last place of " + k, hall.hang(k, k % 5, n - 1, NONE), n == 0 ? PLACE : 1);
        }
    }

    private static void placesAreOfNothingAtFirst() {
        CHECK.sentence("RACKS are rows for METERS; NOTHING at first.");
        MeterHall hall = withEmptyRacks();
        for (int rack = 0; rack <= 4; rack++) {
            for (int i = 0; i < Halls.RACK_PLACES; i++) {
                dueShown(hall, rack, i, 0, NOTHING);
            }
            for (int form = 0; form < 4; form++) {
                CHECK.due("many(" + rack + ", " + form + ")", hall.many(rack, form), 0);
            }
        }
    }

    private static void rackTakesTenPlacesAtMost() {
        CHECK.sentence("Promise 17: n places (10 at most); OUTSIDE");
        MeterHall hall = new MeterHall();
        CHECK.due("rack(0, 0)", hall.rack(0, 0), 0);
        CHECK.due("rack(4, 10)", hall.rack(4, 10), 1);
        CHECK.due("its last place", hall.hang(1, 4, 9, NONE), 1);
        int[] wrong = {11, 12, 20, Integer.MAX_VALUE};
        for (int n : wrong) {
            TWINS.refused("rack(0, " + n + ")", Halls::furnished, OUTSIDE, x -> x.rack(0, n));
            TWINS.refused("rack(4, " + n + ")", Halls::furnished, OUTSIDE, x -> x.rack(4, n));
        }
    }

    private static void rackIsOutside() {
        CHECK.sentence("Promise 17: a FORM 0 .. 4; OUTSIDE");
        for (int form : NO_RACK_FORMS) {
            TWINS.refused("rack(" + form + ", 1)", Halls::furnished, OUTSIDE, hall -> hall.rack(form, 1));
        }
        CHECK.sentence("OUTSIDE: ahead of FINDINGS");
        TWINS.refused("rack(5, -1)", Halls::furnished, OUTSIDE, hall -> hall.rack(5, -1));
    }

    private static void rackIsFull() {
        CHECK.sentence("Promise 17: FULL");
        TWINS.refused("a 13th RACK", Halls::fullOfRacks, FULL, hall -> hall.rack(0, 1));
        TWINS.refused("a 13th RACK without places", Halls::fullOfRacks, FULL, hall -> hall.rack(4, 0));
        CHECK.sentence("OUTSIDE, FULL: the first of these that fits, ahead of FINDINGS");
        TWINS.refused("a 13th RACK of FORM 5", Halls::fullOfRacks, OUTSIDE, hall -> hall.rack(5, 1));
        TWINS.refused("a 13th RACK of 11 places", Halls::fullOfRacks, OUTSIDE, hall -> hall.rack(0, 11));
        TWINS.refused("a 13th RACK of a size below 0", Halls::fullOfRacks, FULL, hall -> hall.rack(0, -1));
    }

    private static void rackIsOfASizeBelowZero() {
        CHECK.sentence("5 SIZE: a size below 0; Promise 17: SIZE");
        int[] sizes = {-1, -10, -11, Integer.MIN_VALUE};
        for (int n : sizes) {
            for (int form = 0; form <= 4; form++) {
                int one = form;
                TWINS.refused("rack(" + form + ", " + n + ")", Halls::furnished, SIZE, hall -> hall.rack(one, n));
            }
        }
    }

    private static void aRackMayBeTakenForItsOwnFormAndForEach() {
        CHECK.sentence("A RACK of a FORM is one of FORM 4, too, and may be taken for it; each may be taken for its own FORM.");
        for (int rack = 0; rack <= 4; rack++) {
            for (int form = 0; form <= 4; form++) {
                for (int meter = 0; meter < 4; meter++) {
                    MeterHall hall = withEmptyRacks();
                    boolean casts = form == 4 || rack == form && meter == form;
                    boolean stores = rack == 4 || rack == meter;
                    int due = !casts ? CAST : stores ? 1 : STORE;
                    CHECK.due("hang(" + rack + ", " + form + ", 1, " + meter + ")", hall.hang(rack, form, 1, meter), due);
                    CHECK.due("many behind it", hall.many(rack, meter), due == 1 ? 1 : 0);
                }
            }
        }
    }

    private static void hangOfNothing() {
        CHECK.sentence("Promise 18: (NONE: NOTHING): 1; 1 CAST: (NOTHING passes)");
        for (int rack = 0; rack <= 4; rack++) {
            for (int form = 0; form <= 4; form++) {
                MeterHall hall = Halls.furnished();
                boolean casts = form == 4 || rack == form;
                CHECK.due("hang(" + rack + ", " + form + ", 0, NONE)", hall.hang(rack, form, 0, NONE), casts ? 1 : CAST);
                int hung = rack == 4 ? 0 : rack;
                CHECK.due("many behind it", hall.many(rack, hung), casts ? 0 : 1);
                hall.shown(rack, 0);
                CHECK.due("finding() of the place", hall.finding(), casts ? NOTHING : 0);
            }
        }
        MeterHall hall = Halls.furnished();
        CHECK.due("NOTHING where NOTHING is", hall.hang(4, 4, 2, NONE), 1);
    }

    private static void hangTakesThePlaceOfAnother() {
        CHECK.sentence("Promise 18: Place i of a RACK becomes a METER: 1.");
        MeterHall hall = Halls.furnished();
        CHECK.due("hang(4, 4, 0, 1)", hall.hang(4, 4, 0, 1), 1);
        CHECK.due("many(4, 0)", hall.many(4, 0), 0);
        CHECK.due("many(4, 1)", hall.many(4, 1), 1);
        dueShown(hall, 4, 0, 1L << 40, 0);
        dueShown(hall, 4, 1, Long.MIN_VALUE, 0);
        CHECK.due("hang(4, 4, 2, 2), the last place", hall.hang(4, 4, 2, 2), 1);
        dueShown(hall, 4, 2, 3, 0);
        CHECK.due("told(0)", hall.told(0), 4);
    }

    private static void theSameMeterHangsInMoreThanOnePlace() {
        CHECK.sentence("Promise 18: Place i of a RACK becomes a METER (which hangs elsewhere, too, and goes on counting)");
        MeterHall hall = withEmptyRacks();
        hall.hang(4, 4, 0, 0);
        hall.hang(4, 4, 2, 0);
        hall.hang(0, 0, 1, 0);
        hall.count(0, 10);
        dueShown(hall, 4, 0, 3, 0);
        dueShown(hall, 4, 2, 3, 0);
        dueShown(hall, 0, 1, 3, 0);
        CHECK.due("many(4, 0)", hall.many(4, 0), 2);
    }

    private static void hangRefused(int why, int rack, int form, int i, int meter) {
        String call = "hang(" + rack + ", " + form + ", " + i + ", " + meter + ")";
        TWINS.refused(call, Halls::furnished, why, hall -> hall.hang(rack, form, i, meter));
    }

    private static void hangIsUnknownOrOutside() {
        CHECK.sentence("Promise 18, UNKNOWN: both");
        for (int rack : NO_RACKS) {
            hangRefused(UNKNOWN, rack, 4, 0, 0);
            hangRefused(UNKNOWN, rack, 4, 0, NONE);
        }
        for (int meter : NO_METERS) {
            hangRefused(UNKNOWN, 4, 4, 0, meter);
        }
        CHECK.sentence("Promise 18: a FORM (0 .. 4); OUTSIDE");
        for (int form : NO_RACK_FORMS) {
            hangRefused(OUTSIDE, 4, form, 0, 1);
            hangRefused(OUTSIDE, 4, form, 0, NONE);
        }
    }

    private static void hangIsCast() {
        CHECK.sentence("Promise 18, CAST: the RACK");
        hangRefused(CAST, 4, 1, 0, 1);
        hangRefused(CAST, 1, 2, 0, 2);
        hangRefused(CAST, 0, 1, 0, NONE);
        hangRefused(CAST, 4, 0, 0, NONE);
        CHECK.sentence("Promise 18, CAST: then the METER");
        hangRefused(CAST, 0, 0, 0, 1);
        hangRefused(CAST, 1, 1, 0, 0);
        hangRefused(CAST, 2, 2, 0, 3);
        hangRefused(CAST, 3, 3, 0, 2);
        CHECK.sentence("Promise 18, CAST: both at once are told once");
        hangRefused(CAST, 0, 2, 0, 1);
    }

    private static void hangIsPlace() {
        CHECK.sentence("2 PLACE: there is no such place; Promise 18: PLACE");
        for (int i : NO_PLACES) {
            hangRefused(PLACE, 4, 4, i, 1);
            hangRefused(PLACE, 2, 2, i, 2);
            hangRefused(PLACE, 2, 4, i, NONE);
        }
    }

    private static void hangIsStore() {
        CHECK.sentence("3 STORE: a RACK refuses a METER of another FORM; Promise 18: STORE");
        for (int rack = 0; rack < 4; rack++) {
            for (int meter = 0; meter < 4; meter++) {
                if (rack != meter) {
                    hangRefused(STORE, rack, 4, 0, meter);
                    hangRefused(STORE, rack, 4, 2, meter);
                }
            }
        }
    }

    private static void hangRefusesInOrder() {
        CHECK.sentence("UNKNOWN, OUTSIDE: the first of these that fits, ahead of FINDINGS (hang)");
        hangRefused(UNKNOWN, 5, 5, 0, 0);
        hangRefused(UNKNOWN, 0, 5, 0, 4);
        hangRefused(UNKNOWN, 0, 1, 0, 4);
        hangRefused(UNKNOWN, 0, 0, 9, 4);
        hangRefused(OUTSIDE, 0, 5, 0, 1);
        hangRefused(OUTSIDE, 0, -1, 9, 0);
        CHECK.sentence("Promise 18, CAST: the RACK, then the METER; PLACE; STORE.");
        hangRefused(CAST, 4, 0, 9, 0);
        hangRefused(CAST, 0, 0, 9, 1);
        hangRefused(CAST, 0, 1, -1, NONE);
        hangRefused(PLACE, 0, 4, Halls.RACK_PLACES, 1);
        hangRefused(PLACE, 0, 4, -1, 3);
    }

    private static void dueShown(MeterHall hall, int rack, int i, long want, int finding) {
        CHECK.due("shown(" + rack + ", " + i + ")", hall.shown(rack, i), want);
        CHECK.due("finding() behind it", hall.finding(), finding);
    }

    private static void shownTells() {
        CHECK.sentence("Promise 19: What the METER at place i of a RACK SHOWS.");
        MeterHall hall = Halls.furnished();
        long[] due = {-7, 1L << 40, 3, Long.MIN_VALUE};
        for (int form = 0; form < 4; form++) {
            hall.shown(9, 0);
            dueShown(hall, form, 0, due[form], 0);
        }
        dueShown(hall, 4, 0, -7, 0);
        dueShown(hall, 4, 1, Long.MIN_VALUE, 0);
        hall.count(0, 7);
        dueShown(hall, 4, 0, 0, 0);
    }

    private static void shownRefused(int why, int rack, int i) {
        TWINS.refusedBits("shown(" + rack + ", " + i + ")", Halls::furnished, why, hall -> hall.shown(rack, i));
    }

    private static void shownRefuses() {
        CHECK.sentence("Promise 19, 0: a FINDING (PLACE)");
        for (int i : NO_PLACES) {
            shownRefused(PLACE, 0, i);
            shownRefused(PLACE, 4, i);
        }
        CHECK.sentence("4 NOTHING: a place of NOTHING is asked for; Promise 19, 0: a FINDING (NOTHING)");
        shownRefused(NOTHING, 0, 1);
        shownRefused(NOTHING, 3, 2);
        shownRefused(NOTHING, 4, 2);
        CHECK.sentence("Promise 19, 0: UNKNOWN (-1).");
        for (int rack : NO_RACKS) {
            shownRefused(UNKNOWN, rack, 0);
            shownRefused(UNKNOWN, rack, -1);
        }
    }

    private static void dueSum(MeterHall hall, int rack, int i, long want, int finding) {
        CHECK.due("sum(" + rack + ", " + i + ")", hall.sum(rack, i), want);
        CHECK.due("finding() behind it", hall.finding(), finding);
    }

    private static void sumGoesFromAPlaceToTheEnd() {
        CHECK.sentence("Promise 20: The sum of all that METERS of a RACK SHOW, from place i on: up to its end.");
        MeterHall hall = withEmptyRacks();
        hall.hang(4, 4, 0, 0);
        hall.hang(4, 4, 1, 1);
        hall.hang(4, 4, 2, 2);
        hall.sum(9, 0);
        dueSum(hall, 4, 0, (1L << 40) - 4, 0);
        dueSum(hall, 4, 1, (1L << 40) + 3, 0);
        dueSum(hall, 4, 2, 3, 0);
        hall.hang(4, 4, 2, 0);
        dueSum(hall, 4, 0, (1L << 40) - 14, 0);
        hall.hang(2, 2, 0, 2);
        hall.hang(2, 2, 1, 2);
        hall.hang(2, 2, 2, 2);
        // Each SHOWS 3 of its 3.5; what they SHOW is added, not what they have.
        dueSum(hall, 2, 0, 9, 0);
    }

    private static void sumWraps() {
        CHECK.sentence("Promise 20: (it wraps)");
        MeterHall hall = withEmptyRacks();
        hall.count(1, Long.MAX_VALUE - 1 - (1L << 40));
        hall.hang(1, 1, 0, 1);
        hall.hang(1, 1, 1, 1);
        hall.hang(1, 1, 2, 1);
        dueSum(hall, 1, 1, -4, 0);
        dueSum(hall, 1, 0, Long.MAX_VALUE - 5, 0);
        hall.hang(4, 4, 0, 3);
        hall.hang(4, 4, 1, 0);
        hall.hang(4, 4, 2, 1);
        dueSum(hall, 4, 0, Long.MIN_VALUE - 7 + Long.MAX_VALUE - 1, 0);
    }

    private static void sumOfNoPlace() {
        CHECK.sentence("Promise 20, PLACE: i below 0 or beyond the end (at the end itself there is just nothing to add)");
        MeterHall hall = Halls.furnished();
        hall.sum(9, 0);
        dueSum(hall, 4, Halls.RACK_PLACES, 0, 0);
        dueSum(hall, 0, Halls.RACK_PLACES, 0, 0);
        CHECK.due("rack(0, 0)", hall.rack(0, 0), 5);
        dueSum(hall, 5, 0, 0, 0);
        CHECK.due("told(4)", hall.told(4), 0);
        CHECK.due("told(6)", hall.told(6), 0);
        dueSum(hall, 5, 1, 0, PLACE);
        dueSum(hall, 5, -1, 0, PLACE);
    }

    private static void sumRefused(int why, int rack, int i) {
        TWINS.refusedBits("sum(" + rack + ", " + i + ")", Halls::furnished, why, hall -> hall.sum(rack, i));
    }

    private static void sumRefuses() {
        CHECK.sentence("Promise 20, 0: a FINDING (PLACE: i below 0 or beyond the end)");
        int[] wrong = {-1, Halls.RACK_PLACES + 1, 11, Integer.MIN_VALUE, Integer.MAX_VALUE};
        for (int i : wrong) {
            sumRefused(PLACE, 0, i);
            sumRefused(PLACE, 4, i);
        }
        CHECK.sentence("Promise 20, 0: UNKNOWN (-1).");
        for (int rack : NO_RACKS) {
            sumRefused(UNKNOWN, rack, 0);
            sumRefused(UNKNOWN, rack, -1);
        }
    }

    private static void sumStopsAtNothing() {
        CHECK.sentence("4 NOTHING: a place of NOTHING is asked for; Promise 20, 0: a FINDING (NOTHING)");
        sumRefused(NOTHING, 4, 0);
        sumRefused(NOTHING, 4, 1);
        sumRefused(NOTHING, 4, 2);
        sumRefused(NOTHING, 0, 0);
        MeterHall hall = Halls.furnished();
        hall.hang(4, 4, 2, 0);
        hall.hang(4, 4, 0, NONE);
        dueSum(hall, 4, 0, 0, NOTHING);
        dueSum(hall, 4, 1, Long.MIN_VALUE - 7, 0);
        hall.hang(4, 4, 1, NONE);
        dueSum(hall, 4, 0, 0, NOTHING);
        CHECK.due("two places of NOTHING are told once", hall.told(6), 2);
        dueSum(hall, 4, 2, -7, 0);
    }

    private static void manyCountsOneForm() {
        CHECK.sentence("Promise 21: How many METERS of a RACK are of a FORM (0 .. 3).");
        MeterHall hall = Halls.withMeters();
        hall.rack(4, 10);
        hall.rack(3, 10);
        int[] hung = {0, 3, 3, 1, 3, 2, 2};
        for (int i = 0; i < hung.length; i++) {
            hall.hang(0, 4, i + 2, hung[i]);
        }
        int[] due = {1, 1, 2, 3};
        for (int form = 0; form < 4; form++) {
            CHECK.due("many(0, " + form + ")", hall.many(0, form), due[form]);
        }
        for (int i = 0; i < 10; i++) {
            CHECK.due("many(1, 3)", hall.many(1, 3), i);
            hall.hang(1, 3, i, 3);
        }
        CHECK.due("many(1, 3)", hall.many(1, 3), 10);
        CHECK.due("many(1, 2)", hall.many(1, 2), 0);
        CHECK.due("rack(0, 0)", hall.rack(0, 0), 2);
        CHECK.due("many of a RACK without places", hall.many(2, 0), 0);
    }

    private static void manyRefuses() {
        CHECK.sentence("Promise 21: UNKNOWN");
        for (int rack : NO_RACKS) {
            TWINS.refused("many(" + rack + ", 0)", Halls::furnished, UNKNOWN, hall -> hall.many(rack, 0));
            TWINS.refused("many(" + rack + ", 4)", Halls::furnished, UNKNOWN, hall -> hall.many(rack, 4));
        }
        CHECK.sentence("Promise 21: a FORM (0 .. 3); OUTSIDE.");
        int[] wrong = {-1, 4, 5, NONE, Integer.MIN_VALUE, Integer.MAX_VALUE};
        for (int form : wrong) {
            TWINS.refused("many(4, " + form + ")", Halls::furnished, OUTSIDE, hall -> hall.many(4, form));
            TWINS.refused("many(0, " + form + ")", Halls::furnished, OUTSIDE, hall -> hall.many(0, form));
        }
    }
}
