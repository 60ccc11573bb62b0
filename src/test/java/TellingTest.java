/** Promises 22 (finding), 23 (told) and 24 (clear). */
final class TellingTest {
    private static final Check CHECK = new Check();

    public static void main(String[] args) {
        findingIsOfTheLatestCallThatAnswersBits();
        toldCountsAll();
        toldRefuses();
        clearLeavesFindingAlone();
        CHECK.done();
    }

    private static void findingIsOfTheLatestCallThatAnswersBits() {
        MeterHall hall = new MeterHall();
        CHECK.due("ahead of any", hall.finding(), 0);
        hall.meter(0, 60);
        hall.rack(4, 1);
        hall.shown(0, 0);
        CHECK.due("of shown", hall.finding(), -44);
        callsThatAnswerNoBits(hall);
        CHECK.due("other calls leave it", hall.finding(), -44);
        CHECK.due("and so does finding()", hall.finding(), -44);
        hall.turned(0, 0, 1);
        CHECK.due("of turned", hall.finding(), 0);
        hall.turned(9, 0, 1);
        CHECK.due("of turned", hall.finding(), -2);
        hall.rest(0, 5, 3);
        CHECK.due("of rest", hall.finding(), 0);
        hall.rest(0, 5, 0);
        CHECK.due("of rest", hall.finding(), -2);
        hall.value(0, 0);
        CHECK.due("of value", hall.finding(), 0);
        hall.value(1, 0);
        CHECK.due("of value", hall.finding(), -1);
        hall.hang(0, 4, 0, 0);
        hall.shown(0, 0);
        CHECK.due("of shown", hall.finding(), 0);
        hall.sum(0, 2);
        CHECK.due("of sum", hall.finding(), -42);
        hall.sum(0, 0);
        CHECK.due("of sum", hall.finding(), 0);
    }

    private static void callsThatAnswerNoBits(MeterHall hall) {
        hall.order(0, 1, 1);
        hall.order(9, 1, 1);
        hall.count(0, 1);
        hall.count(9, 1);
        hall.carry(0, 0);
        hall.track(0, 2, -1);
        hall.share(0, 0);
        hall.form(0);
        hall.length(0, 2);
        hall.write(0, 2, 0, 0);
        Check.readOf(hall, 0, 2, 0);
        Check.readOf(hall, 12, 2, 0);
        hall.feed(0, 0, 2, 0);
        hall.log(0, 0, 2, 0);
        hall.rack(9, 0);
        hall.hang(0, 0, 0, 0);
        hall.many(0, 0);
        hall.told(3);
    }

    private static void toldCountsAll() {
        MeterHall hall = new MeterHall();
        hall.meter(0, 60);
        hall.meter(2, Check.single(Float.MAX_VALUE));
        hall.track(0, 2, 1);
        hall.share(1, 0);
        hall.share(2, 0);
        hall.rack(0, 2);
        dueTold(hall, 2, 3, 1, 0, 0, 0, 0, 0, 0);
        hall.length(0, 3);
        dueTold(hall, 2, 3, 1, 1, 0, 0, 0, 0, 0);
        hall.write(0, 2, 1, 0);
        hall.shown(0, 2);
        dueTold(hall, 2, 3, 1, 1, 2, 0, 0, 0, 0);
        hall.hang(0, 4, 0, 1);
        dueTold(hall, 2, 3, 1, 1, 2, 1, 0, 0, 0);
        hall.sum(0, 0);
        hall.form(5);
        hall.length(5, 2);
        dueTold(hall, 2, 3, 1, 1, 2, 1, 2, 0, 0);
        hall.rack(0, -1);
        hall.track(5, 2, -1);
        dueTold(hall, 2, 3, 1, 1, 2, 1, 2, 2, 0);
        hall.count(1, Check.single(3e38f));
        hall.count(1, Check.single(3e38f));
        dueTold(hall, 2, 3, 1, 1, 2, 1, 2, 2, 1);
        hall.share(2, MeterHall.NONE);
        Check.readOf(hall, 2, 2, 0);
        hall.count(9, 0);
        hall.meter(9, 0);
        dueTold(hall, 2, 2, 1, 1, 2, 1, 2, 2, 1);
    }

    private static void dueTold(MeterHall hall, int... due) {
        for (int what = 0; what < due.length; what++) {
            CHECK.due("told(" + what + ")", hall.told(what), due[what]);
        }
    }

    private static void toldRefuses() {
        MeterHall hall = new MeterHall();
        int[] wrong = {-1, 9, -2, Integer.MIN_VALUE, Integer.MAX_VALUE};
        for (int what : wrong) {
            CHECK.due("told(" + what + ")", hall.told(what), MeterHall.OUTSIDE);
        }
    }

    private static void clearLeavesFindingAlone() {
        MeterHall hall = new MeterHall();
        for (int k = 0; k < 24; k++) {
            hall.meter(0, 60);
        }
        hall.count(0, 7);
        hall.track(0, 2, 3);
        hall.write(0, 2, 0, Check.single(5f));
        hall.rack(0, 1);
        hall.hang(0, 0, 0, 0);
        hall.length(0, 3);
        hall.write(0, 2, 3, 0);
        hall.hang(0, 4, 0, 24);
        hall.shown(0, 1);
        CHECK.due("clear()", hall.clear(), 24);
        CHECK.due("finding() stays", hall.finding(), -42);
        dueTold(hall, 0, 0, 0, 0, 0, 0, 0, 0, 0);
        CHECK.due("form(0)", hall.form(0), MeterHall.NONE);
        CHECK.due("count(0, 1)", hall.count(0, 1), MeterHall.UNKNOWN);
        CHECK.due("many(0, 0)", hall.many(0, 0), MeterHall.UNKNOWN);
        CHECK.due("meter(1, 9)", hall.meter(1, 9), 0);
        CHECK.due("value(0, 0)", hall.value(0, 0), 0);
        CHECK.due("value(0, 1)", hall.value(0, 1), 9);
        CHECK.due("rack(4, 1)", hall.rack(4, 1), 0);
        hall.shown(0, 0);
        CHECK.due("a new rack's place", hall.finding(), -44);
        CHECK.due("clear()", hall.clear(), 1);
        CHECK.due("clear()", hall.clear(), 0);
    }
}
