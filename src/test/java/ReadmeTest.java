/** README.md's examples, call by call: whoever follows them is to get the answers that stand there. */
final class ReadmeTest {
    private static final Check CHECK = new Check();
    private static final int UNKNOWN = MeterHall.UNKNOWN, PLACE = -42;

    public static void main(String[] args) {
        CHECK.sentence("README.md");
        MeterHall hall = new MeterHall();
        metersCountRound(hall);
        tracksAndRacksHold(hall);
        whatDoesNotFitIsTold(hall);
        CHECK.done();
    }

    private static void metersCountRound(MeterHall hall) {
        CHECK.due("minutes", hall.meter(0, 60), 0);
        CHECK.due("angle", hall.meter(2, Check.single(360f)), 1);
        CHECK.due("count(minutes, 75)", hall.count(0, 75), 1);
        CHECK.due("value(minutes, 0)", hall.value(0, 0), 15);
        CHECK.due("carry(angle, minutes)", hall.carry(1, 0), 1);
        CHECK.due("value(angle, 0)", hall.value(1, 0), Check.single(15f));
    }

    private static void tracksAndRacksHold(MeterHall hall) {
        CHECK.due("track(3, 2, 4)", hall.track(3, 2, 4), 1);
        CHECK.due("log(angle, 3, 2, 0)", hall.log(1, 3, 2, 0), 1);
        CHECK.dueRead(hall, 3, 2, 0, Check.single(15f));
        CHECK.due("rack(4, 2)", hall.rack(4, 2), 0);
        CHECK.due("hang(rack, 4, 0, minutes)", hall.hang(0, 4, 0, 0), 1);
        CHECK.due("hang(rack, 4, 1, angle)", hall.hang(0, 4, 1, 1), 1);
        CHECK.due("sum(rack, 0)", hall.sum(0, 0), 30);
    }

    private static void whatDoesNotFitIsTold(MeterHall hall) {
        CHECK.due("value(9, 0)", hall.value(9, 0), 0);
        CHECK.due("finding()", hall.finding(), UNKNOWN);
        CHECK.due("hang(rack, 4, 2, minutes)", hall.hang(0, 4, 2, 0), PLACE);
        CHECK.due("told(4)", hall.told(4), 1);
        CHECK.dueRead(hall, 3, 3, 0, "ClassCastException");
        CHECK.dueRead(hall, 5, 2, 0, "NullPointerException");
        CHECK.dueRead(hall, 3, 2, 4, "ArrayIndexOutOfBoundsException");
    }
}
