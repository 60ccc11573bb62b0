/** The document's sentences on FINDINGS, and promises 22 (finding), 23 (told) and 24 (clear). */
final class TellingTest {
    private static final Check CHECK = new Check();
    private static final Twins TWINS = new Twins(CHECK);
    private static final int CAST = -41, PLACE = -42, STORE = -43, NOTHING = -44, SIZE = -45, GREAT = -46;

    public static void main(String[] args) {
        findingsAreAnsweredAsFortyLess();
        findingIsZeroAheadOfAny();
        findingIsOfEachCallThatAnswersBits();
        otherCallsLeaveFinding();
        readLeavesFinding();
        toldCountsMeters();
        toldCountsTracksThatHoldARow();
        toldCountsRacks();
        toldCountsFindingsInAll();
        toldCountsNoRefusals();
        toldCountsNoRead();
        toldRefuses();
        clearTellsHowManyMetersThereWere();
        clearMakesAllAsAtTheBeginning();
        clearLeavesFinding();
        clearLeavesThePlacesMade();
        clearLetsAllBeMadeAgain();
        CHECK.done();
    }

    private static void findingsAreAnsweredAsFortyLess() {
        CHECK.sentence("FINDINGS are answered as -40 less them (where BITS are answered: 0, and finding() tells)");
        MeterHall hall = Halls.high();
        CHECK.due("1 CAST", hall.length(0, 3), -41);
        CHECK.due("2 PLACE", hall.write(0, 2, 9, 0), -42);
        CHECK.due("3 STORE", hall.hang(0, 4, 0, 1), -43);
        CHECK.due("4 NOTHING", hall.length(3, 2), -44);
        CHECK.due("5 SIZE", hall.rack(0, -1), -45);
        CHECK.due("6 GREAT", hall.carry(2, 3), -46);
        CHECK.due("finding() of none of them", hall.finding(), 0);
        CHECK.due("2 PLACE of BITS", hall.shown(0, 9), 0);
        CHECK.due("finding()", hall.finding(), -42);
        CHECK.due("4 NOTHING of BITS", hall.sum(4, 2), 0);
        CHECK.due("finding()", hall.finding(), -44);
    }

    private static void findingIsZeroAheadOfAny() {
        CHECK.sentence("Promise 22, 0: none, or ahead of any.");
        MeterHall hall = new MeterHall();
        CHECK.due("finding()", hall.finding(), 0);
        hall.count(0, 1);
        hall.order(9, 0, 0);
        hall.length(0, 2);
        hall.rack(0, -1);
        CHECK.due("finding(), ahead of any that answers BITS", hall.finding(), 0);
        CHECK.due("finding() again", hall.finding(), 0);
    }

    private static void findingIsOfEachCallThatAnswersBits() {
        CHECK.sentence("Promise 22: Of the latest call that answers BITS (turned, rest, value, shown, sum)");
        MeterHall hall = Halls.furnished();
        Twins.Call[] refused = {x -> x.turned(9, 0, 1), x -> x.rest(0, 5, 0), x -> x.value(4, 0), x -> x.value(0, 4),
            x -> x.shown(5, 0), x -> x.shown(4, 3), x -> x.shown(4, 2), x -> x.sum(5, 0), x -> x.sum(4, 4),
            x -> x.sum(4, 0)};
        int[] why = {-2, -2, -1, -2, -1, PLACE, NOTHING, -1, PLACE, NOTHING};
        Twins.Call[] fine = {x -> x.turned(0, 0, 1), x -> x.rest(0, 5, 3), x -> x.value(0, 0), x -> x.shown(4, 0),
            x -> x.sum(4, 3)};
        for (int k = 0; k < refused.length; k++) {
            for (Twins.Call call : fine) {
                refused[k].of(hall);
                CHECK.due("finding() behind refused call " + k, hall.finding(), why[k]);
                call.of(hall);
                CHECK.due("finding() behind one that is fine", hall.finding(), 0);
            }
        }
    }

    private static void otherCallsLeaveFinding() {
        CHECK.sentence("Promise 22: Of the latest call that answers BITS; no other call changes it");
        Twins.Call[] others = {x -> x.order(0, 1, 1), x -> x.order(9, 1, 1), x -> x.meter(0, 5), x -> x.meter(0, 0),
            x -> x.count(0, 1), x -> x.count(9, 1), x -> x.count(0, 1L << 40), x -> x.count(2, Check.single(3e38f)),
            x -> x.carry(0, 0), x -> x.carry(9, 0), x -> x.carry(2, 3), x -> x.track(0, 2, 3), x -> x.track(0, 2, -1),
            x -> x.track(12, 2, 1), x -> x.share(0, 1), x -> x.share(12, 0), x -> x.form(0), x -> x.form(12),
            x -> x.length(0, 2), x -> x.length(0, 3), x -> x.length(3, 2), x -> x.length(0, 9), x -> x.write(0, 2, 0, 0),
            x -> x.write(0, 2, 9, 0), x -> x.write(0, 3, 0, 0), x -> x.feed(0, 0, 2, 1), x -> x.feed(0, 0, 2, 9),
            x -> x.feed(9, 0, 2, 0), x -> x.log(0, 0, 2, 0), x -> x.log(0, 0, 3, 0), x -> x.rack(0, 1),
            x -> x.rack(0, -1), x -> x.rack(9, 1), x -> x.hang(0, 0, 0, 0), x -> x.hang(0, 4, 0, 1),
            x -> x.hang(9, 0, 0, 0), x -> x.many(0, 0), x -> x.many(9, 0), x -> x.finding(), x -> x.told(0),
            x -> x.told(9), x -> x.clear()};
        for (int k = 0; k < others.length; k++) {
            MeterHall hall = Halls.high();
            hall.shown(4, 3);
            others[k].of(hall);
            CHECK.due("finding() behind other call " + k, hall.finding(), PLACE);
            hall.turned(0, 0, 0);
            others[k].of(hall);
            CHECK.due("finding() behind other call " + k, hall.finding(), 0);
        }
    }

    private static void readLeavesFinding() {
        CHECK.sentence("Promise 22: (turned, rest, value, shown, sum); read() is none of these");
        int[][] reads = {{0, 2, 0}, {12, 2, 0}, {0, 1, 0}, {0, 3, 0}, {3, 2, 0}, {0, 2, 9}};
        for (int[] read : reads) {
            MeterHall hall = Halls.furnished();
            hall.shown(4, 3);
            Check.readOf(hall, read[0], read[1], read[2]);
            CHECK.due("finding() behind a read", hall.finding(), PLACE);
            hall.turned(0, 0, 0);
            Check.readOf(hall, read[0], read[1], read[2]);
            CHECK.due("finding() behind a read", hall.finding(), 0);
        }
    }

    private static void toldCountsMeters() {
        CHECK.sentence("Promise 23: 0 METERS");
        MeterHall hall = new MeterHall();
        for (int k = 0; k < 24; k++) {
            CHECK.due("told(0)", hall.told(0), k);
            hall.meter(k % 2, 5);
        }
        CHECK.due("told(0)", hall.told(0), 24);
        hall.meter(0, 5);
        CHECK.due("told(0)", hall.told(0), 24);
    }

    private static void toldCountsTracksThatHoldARow() {
        CHECK.sentence("Promise 23: 1 TRACKS that hold a ROW");
        MeterHall hall = new MeterHall();
        hall.track(0, 2, 1);
        hall.track(11, 3, 0);
        CHECK.due("told(1) of two ROWS", hall.told(1), 2);
        hall.share(5, 0);
        CHECK.due("told(1) with one shared", hall.told(1), 3);
        hall.track(0, 3, 1);
        CHECK.due("told(1) with one anew", hall.told(1), 3);
        hall.share(5, MeterHall.NONE);
        hall.share(0, 7);
        CHECK.due("told(1) with two given up", hall.told(1), 1);
    }

    private static void toldCountsRacks() {
        CHECK.sentence("Promise 23: 2 RACKS");
        MeterHall hall = new MeterHall();
        for (int k = 0; k < 12; k++) {
            CHECK.due("told(2)", hall.told(2), k);
            hall.rack(k % 5, k % 2);
        }
        hall.rack(0, 1);
        CHECK.due("told(2)", hall.told(2), 12);
    }

    private static void dueFindings(MeterHall hall, String behind, int... due) {
        for (int k = 0; k < 6; k++) {
            CHECK.due("told(" + (3 + k) + ") behind " + behind, hall.told(3 + k), due[k]);
        }
    }

    private static void toldCountsFindingsInAll() {
        CHECK.sentence("Promise 23: 3 .. 8 FINDINGS 1 .. 6 in all");
        MeterHall hall = Halls.high();
        dueFindings(hall, "none", 0, 0, 0, 0, 0, 0);
        hall.length(0, 3);
        hall.write(1, 2, 0, 0);
        hall.feed(0, 0, 3, 0);
        hall.log(0, 0, 3, 0);
        hall.hang(0, 1, 0, 0);
        hall.hang(0, 0, 0, 1);
        dueFindings(hall, "six of CAST", 6, 0, 0, 0, 0, 0);
        hall.write(0, 2, 2, 0);
        hall.feed(0, 0, 2, 2);
        hall.log(0, 0, 2, 2);
        hall.hang(0, 0, 3, 0);
        hall.shown(0, 3);
        hall.sum(0, 4);
        dueFindings(hall, "six of PLACE", 6, 6, 0, 0, 0, 0);
        hall.hang(0, 4, 0, 1);
        hall.hang(1, 4, 0, 0);
        dueFindings(hall, "two of STORE", 6, 6, 2, 0, 0, 0);
        hall.length(3, 2);
        hall.write(3, 2, 0, 0);
        hall.feed(0, 3, 2, 0);
        hall.log(0, 3, 2, 0);
        hall.shown(4, 2);
        hall.sum(4, 0);
        dueFindings(hall, "six of NOTHING", 6, 6, 2, 6, 0, 0);
        hall.track(0, 2, -1);
        hall.rack(0, -1);
        dueFindings(hall, "two of SIZE", 6, 6, 2, 6, 2, 0);
        hall.count(2, Check.single(3e38f));
        hall.carry(2, 3);
        hall.feed(2, 0, 2, 0);
        dueFindings(hall, "three of GREAT", 6, 6, 2, 6, 2, 3);
    }

    private static void toldCountsNoRefusals() {
        CHECK.sentence("Promise 23: FINDINGS; what is UNKNOWN, OUTSIDE, FULL, NONE is none of them");
        MeterHall hall = Halls.furnished();
        hall.turned(9, 0, 0);
        hall.rest(0, 1, 0);
        hall.order(9, 0, 0);
        hall.meter(0, 0);
        hall.count(9, 0);
        hall.carry(9, 0);
        hall.value(9, 0);
        hall.track(12, 2, -1);
        hall.share(12, 0);
        hall.form(3);
        hall.length(3, 9);
        hall.write(3, 9, 9, 0);
        hall.feed(9, 3, 2, 0);
        hall.log(9, 3, 2, 0);
        hall.rack(9, -1);
        hall.hang(9, 0, 9, 0);
        hall.shown(9, 9);
        hall.sum(9, 9);
        hall.many(9, 9);
        hall.told(9);
        dueFindings(hall, "refusals alone", 0, 0, 0, 0, 0, 0);
    }

    private static void toldCountsNoRead() {
        CHECK.sentence("Promise 23: (read() counts none)");
        MeterHall hall = Halls.furnished();
        Check.readOf(hall, 0, 3, 0);
        Check.readOf(hall, 3, 2, 0);
        Check.readOf(hall, 0, 2, 9);
        dueFindings(hall, "reads alone", 0, 0, 0, 0, 0, 0);
    }

    private static void toldRefuses() {
        CHECK.sentence("Promise 23: OUTSIDE.");
        int[] wrong = {-1, 9, -2, -39, 10, Integer.MIN_VALUE, Integer.MIN_VALUE + 2, Integer.MAX_VALUE};
        for (int what : wrong) {
            TWINS.refused("told(" + what + ")", Halls::furnished, MeterHall.OUTSIDE, hall -> hall.told(what));
        }
    }

    private static void clearTellsHowManyMetersThereWere() {
        CHECK.sentence("Promise 24: how many METERS there were.");
        MeterHall hall = Halls.furnished();
        CHECK.due("clear() of 4", hall.clear(), 4);
        CHECK.due("clear() of none", hall.clear(), 0);
        hall.rack(0, 1);
        hall.track(0, 2, 1);
        CHECK.due("clear() of none, with a RACK and a TRACK", hall.clear(), 0);
        CHECK.due("clear() of 24", Halls.fullOfMeters().clear(), 24);
    }

    private static void clearMakesAllAsAtTheBeginning() {
        CHECK.sentence("Promise 24: All is as at the beginning");
        MeterHall hall = Halls.high();
        Twins.Call[] found = {x -> x.length(0, 3), x -> x.write(0, 2, 9, 0), x -> x.hang(0, 4, 0, 1), x -> x.length(3, 2),
            x -> x.rack(0, -1), x -> x.carry(2, 3)};
        for (Twins.Call call : found) {
            call.of(hall);
        }
        dueFindings(hall, "one of each", 1, 1, 1, 1, 1, 1);
        hall.clear();
        for (int what = 0; what <= 8; what++) {
            CHECK.due("told(" + what + ")", hall.told(what), 0);
        }
        for (int track = 0; track < 12; track++) {
            CHECK.due("form(" + track + ")", hall.form(track), MeterHall.NONE);
        }
        for (int k = 0; k < 5; k++) {
            CHECK.due("count(" + k + ", 0)", hall.count(k, 0), MeterHall.UNKNOWN);
            CHECK.due("many(" + k + ", 0)", hall.many(k, 0), MeterHall.UNKNOWN);
            hall.value(k, 3);
            CHECK.due("finding() of value(" + k + ", 3)", hall.finding(), MeterHall.UNKNOWN);
        }
    }

    private static void clearLeavesFinding() {
        CHECK.sentence("Promise 24: (but finding())");
        int[] why = {-2, -1, PLACE, NOTHING, 0};
        Twins.Call[] calls = {x -> x.turned(9, 0, 0), x -> x.value(9, 0), x -> x.shown(4, 9), x -> x.sum(4, 0),
            x -> x.value(0, 0)};
        for (int k = 0; k < calls.length; k++) {
            MeterHall hall = Halls.furnished();
            calls[k].of(hall);
            hall.clear();
            CHECK.due("finding() behind clear()", hall.finding(), why[k]);
        }
    }

    private static void clearLeavesThePlacesMade() {
        CHECK.sentence("Promise 24: (but the places made ever)");
        MeterHall hall = Halls.fullOfPlaces();
        hall.clear();
        CHECK.due("track at 3000", hall.track(0, 2, 1), MeterHall.FULL);
        hall = Halls.withPlacesMade(2999);
        hall.clear();
        CHECK.due("track at 2999", hall.track(0, 2, 1), 1);
        hall.clear();
        CHECK.due("track at 3000", hall.track(0, 2, 1), MeterHall.FULL);
    }

    private static void clearLetsAllBeMadeAgain() {
        CHECK.sentence("Promise 24: All is as at the beginning; what is made then is new");
        MeterHall hall = Halls.fullOfMeters();
        hall.clear();
        for (int k = 0; k < 24; k++) {
            CHECK.due("meter " + k, hall.meter(1, 9), k);
            CHECK.due("its VALUE", hall.value(k, 0), 0);
        }
        CHECK.due("a 25th meter", hall.meter(1, 9), MeterHall.FULL);
        hall = Halls.fullOfRacks();
        hall.clear();
        CHECK.due("rack(4, 2)", hall.rack(4, 2), 0);
        CHECK.due("meter(0, 5)", hall.meter(0, 5), 0);
        CHECK.due("hang", hall.hang(0, 4, 1, 0), 1);
        hall.shown(0, 0);
        CHECK.due("finding() of a new RACK's place", hall.finding(), NOTHING);
        CHECK.due("SIZE", hall.track(0, 2, -1), SIZE);
        CHECK.due("told(7)", hall.told(7), 1);
        CHECK.due("STORE", hall.hang(hall.rack(1, 1), 4, 0, 0), STORE);
        CHECK.due("told(3)", hall.told(3), 0);
        hall.track(0, 2, 1);
        CHECK.due("CAST", hall.length(0, 3), CAST);
        hall.meter(2, Check.single(Float.MAX_VALUE));
        hall.count(1, Check.single(3e38f));
        CHECK.due("GREAT", hall.carry(1, 1), GREAT);
        CHECK.due("told(8)", hall.told(8), 1);
    }
}
