import java.util.List;

/** Holds a hall with a refused call behind it against a twin without it: all but what tells of the call is the same. */
final class Twins {
    interface Making {
        MeterHall hall();
    }

    interface Call {
        long of(MeterHall hall);
    }

    private static final int FIRST_FINDING = -41;

    private final Check check;

    Twins(Check check) {
        this.check = check;
    }

    /** A call that answers why it was refused, or its FINDING. */
    void refused(String name, Making making, int why, Call call) {
        MeterHall asked = making.hall();
        check.due(name, call.of(asked), why);
        same(name, asked, making.hall(), 0, why);
    }

    /** A call that answers BITS: 0 then, and finding() tells why. */
    void refusedBits(String name, Making making, int why, Call call) {
        MeterHall asked = making.hall();
        check.due(name, call.of(asked), 0);
        same(name, asked, making.hall(), why, why);
    }

    void refusedRead(Making making, String due, int track, int form, int i) {
        MeterHall asked = making.hall();
        check.dueRead(asked, track, form, i, due);
        same("read(" + track + ", " + form + ", " + i + ")", asked, making.hall(), 0, 0);
    }

    private void same(String name, MeterHall asked, MeterHall twin, int finding, int counted) {
        check.due("finding() behind " + name, asked.finding(), finding);
        for (int what = 0; what <= 8; what++) {
            int more = counted <= FIRST_FINDING && what == 3 + FIRST_FINDING - counted ? 1 : 0;
            check.due("told(" + what + ") behind " + name, asked.told(what), twin.told(what) + more);
        }
        List<String> left = State.of(asked);
        List<String> due = State.of(twin);
        check.due("what is told behind " + name, left.size(), due.size());
        for (int k = 0; k < Math.min(left.size(), due.size()); k++) {
            check.due("behind " + name, left.get(k), due.get(k));
        }
    }
}
