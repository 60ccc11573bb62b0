/** Promises 17 (rack), 18 (hang), 19 (shown), 20 (sum) and 21 (many). */
final class RacksTest {
    private static final Check CHECK = new Check();
    private static final int CAST = -41, PLACE = -42, STORE = -43, NOTHING = -44, SIZE = -45;

    public static void main(String[] args) {
        racksAreNumberedUpToFull();
        rackRefusesInOrder();
        hangTakesWhatFits();
        hangRefusesInOrder();
        shownTells();
        sumWrapsAndStopsAtNothing();
        manyCountsOneForm();
        CHECK.done();
    }

    /** Meters 0 .. 3 of the forms 0 .. 3, racks 0 .. 4 of the forms 0 .. 4 with three places each. */
    private static MeterHall fourMetersAndFiveRacks() {
        MeterHall hall = new MeterHall();
        hall.meter(0, 60);
        hall.meter(1, Long.MAX_VALUE);
        hall.meter(2, Check.single(60f));
        hall.meter(3, Check.real(1e30));
        for (int form = 0; form <= 4; form++) {
            hall.rack(form, 3);
        }
        return hall;
    }

    private static void racksAreNumberedUpToFull() {
        MeterHall hall = new MeterHall();
        for (int k = 0; k < 12; k++) {
            CHECK.due("rack " + k, hall.rack(k % 5, k % 11), k);
        }
        CHECK.due("a 13th rack", hall.rack(0, 1), MeterHall.FULL);
        CHECK.due("a 13th rack of size -1", hall.rack(0, -1), MeterHall.FULL);
        CHECK.due("a 13th rack of size 11", hall.rack(0, 11), MeterHall.OUTSIDE);
        CHECK.due("told(2)", hall.told(2), 12);
        CHECK.due("the last place of a rack of ten", hall.hang(10, 0, 9, MeterHall.NONE), 1);
        CHECK.due("beyond it", hall.hang(10, 0, 10, MeterHall.NONE), PLACE);
    }

    private static void rackRefusesInOrder() {
        MeterHall hall = new MeterHall();
        CHECK.due("rack(-1, 1)", hall.rack(-1, 1), MeterHall.OUTSIDE);
        CHECK.due("rack(5, -1)", hall.rack(5, -1), MeterHall.OUTSIDE);
        CHECK.due("rack(4, 11)", hall.rack(4, 11), MeterHall.OUTSIDE);
        CHECK.due("rack(4, -1)", hall.rack(4, -1), SIZE);
        CHECK.due("rack(0, least)", hall.rack(0, Integer.MIN_VALUE), SIZE);
        CHECK.due("told(2)", hall.told(2), 0);
        CHECK.due("told(7)", hall.told(7), 2);
    }

    private static void hangTakesWhatFits() {
        for (int rack = 0; rack <= 4; rack++) {
            for (int form = 0; form <= 4; form++) {
                for (int meter = 0; meter < 4; meter++) {
                    MeterHall hall = fourMetersAndFiveRacks();
                    boolean casts = form == 4 || rack == form && meter == form;
                    boolean stores = rack == 4 || rack == meter;
                    int due = !casts ? CAST : stores ? 1 : STORE;
                    CHECK.due("hang(" + rack + ", " + form + ", 1, " + meter + ")", hall.hang(rack, form, 1, meter), due);
                    CHECK.due("many behind it", hall.many(rack, meter), due == 1 ? 1 : 0);
                }
            }
        }
    }

    private static void hangRefusesInOrder() {
        MeterHall hall = fourMetersAndFiveRacks();
        CHECK.due("no such rack", hall.hang(5, 9, 9, 0), MeterHall.UNKNOWN);
        CHECK.due("no such rack", hall.hang(MeterHall.NONE, 0, 0, 0), MeterHall.UNKNOWN);
        CHECK.due("no such meter", hall.hang(0, 9, 9, 4), MeterHall.UNKNOWN);
        CHECK.due("no such meter", hall.hang(0, 0, 0, -1), MeterHall.UNKNOWN);
        CHECK.due("no form", hall.hang(0, -1, 9, 0), MeterHall.OUTSIDE);
        CHECK.due("no form", hall.hang(0, 5, 9, 1), MeterHall.OUTSIDE);
        CHECK.due("the rack is cast, no place", hall.hang(4, 0, 9, 0), CAST);
        CHECK.due("the rack is cast for nothing", hall.hang(1, 0, 0, MeterHall.NONE), CAST);
        CHECK.due("the meter is cast, no place", hall.hang(0, 0, 9, 1), CAST);
        CHECK.due("no place, ahead of store", hall.hang(0, 4, 3, 1), PLACE);
        CHECK.due("no place", hall.hang(0, 0, -1, 0), PLACE);
        CHECK.due("no place for nothing", hall.hang(0, 0, 3, MeterHall.NONE), PLACE);
        CHECK.due("store", hall.hang(0, 4, 2, 1), STORE);
        CHECK.due("told(3)", hall.told(3), 3);
        CHECK.due("told(4)", hall.told(4), 3);
        CHECK.due("told(5)", hall.told(5), 1);
        hall.hang(0, 0, 0, 0);
        CHECK.due("a store that is refused", hall.hang(0, 4, 0, 3), STORE);
        CHECK.due("leaves what hangs there", hall.many(0, 0), 1);
        CHECK.due("nothing takes its place", hall.hang(0, 0, 0, MeterHall.NONE), 1);
        CHECK.due("many(0, 0)", hall.many(0, 0), 0);
    }

    private static void shownTells() {
        MeterHall hall = fourMetersAndFiveRacks();
        hall.hang(4, 4, 0, 3);
        hall.hang(2, 2, 2, 2);
        hall.count(3, Check.real(-1e25));
        hall.count(2, Check.single(-7.75f));
        dueShown(hall, 4, 0, Long.MIN_VALUE, 0);
        dueShown(hall, 2, 2, -7, 0);
        dueShown(hall, 4, 1, 0, NOTHING);
        dueShown(hall, 4, 3, 0, PLACE);
        dueShown(hall, 4, -1, 0, PLACE);
        dueShown(hall, 5, 0, 0, MeterHall.UNKNOWN);
        dueShown(hall, -1, 0, 0, MeterHall.UNKNOWN);
        hall.count(2, Check.single(0.75f));
        dueShown(hall, 2, 2, -7, 0);
        CHECK.due("told(4)", hall.told(4), 2);
        CHECK.due("told(6)", hall.told(6), 1);
    }

    private static void dueShown(MeterHall hall, int rack, int i, long want, int finding) {
        CHECK.due("shown(" + rack + ", " + i + ")", hall.shown(rack, i), want);
        CHECK.due("finding() behind it", hall.finding(), finding);
    }

    private static void sumWrapsAndStopsAtNothing() {
        MeterHall hall = fourMetersAndFiveRacks();
        hall.count(0, 7);
        hall.count(1, Long.MAX_VALUE - 1);
        hall.hang(4, 4, 1, 1);
        hall.hang(4, 4, 2, 0);
        dueSum(hall, 4, 0, 0, NOTHING);
        dueSum(hall, 4, 1, Long.MAX_VALUE + 6, 0);
        dueSum(hall, 4, 2, 7, 0);
        dueSum(hall, 4, 3, 0, 0);
        dueSum(hall, 4, 4, 0, PLACE);
        dueSum(hall, 4, -1, 0, PLACE);
        dueSum(hall, 4, Integer.MIN_VALUE, 0, PLACE);
        dueSum(hall, 5, 0, 0, MeterHall.UNKNOWN);
        hall.hang(4, 4, 0, 0);
        dueSum(hall, 4, 0, Long.MAX_VALUE + 13, 0);
        hall.hang(4, 4, 2, MeterHall.NONE);
        dueSum(hall, 4, 0, 0, NOTHING);
        CHECK.due("rack of no places", hall.rack(0, 0), 5);
        dueSum(hall, 5, 0, 0, 0);
        CHECK.due("told(4)", hall.told(4), 3);
        CHECK.due("told(6)", hall.told(6), 2);
    }

    private static void dueSum(MeterHall hall, int rack, int i, long want, int finding) {
        CHECK.due("sum(" + rack + ", " + i + ")", hall.sum(rack, i), want);
        CHECK.due("finding() behind it", hall.finding(), finding);
    }

    private static void manyCountsOneForm() {
        MeterHall hall = fourMetersAndFiveRacks();
        hall.hang(4, 4, 0, 0);
        hall.hang(4, 4, 1, 3);
        hall.hang(4, 4, 2, 3);
        int[] due = {1, 0, 0, 2};
        for (int form = 0; form < 4; form++) {
            CHECK.due("many(4, " + form + ")", hall.many(4, form), due[form]);
        }
        CHECK.due("many(4, 4)", hall.many(4, 4), MeterHall.OUTSIDE);
        CHECK.due("many(4, -1)", hall.many(4, -1), MeterHall.OUTSIDE);
        CHECK.due("many(5, 4)", hall.many(5, 4), MeterHall.UNKNOWN);
        CHECK.due("many(-1, 0)", hall.many(-1, 0), MeterHall.UNKNOWN);
        CHECK.due("many(0, 0)", hall.many(0, 0), 0);
    }
}
