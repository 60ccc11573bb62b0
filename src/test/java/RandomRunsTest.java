import java.util.Random;

/** All promises at once: long runs of calls of all kinds, answered by MeterHall and by MachineHall alike. */
final class RandomRunsTest {
    private static final int RUNS = 3000;
    private static final int CALLS = 512;
    private static final Check CHECK = new Check();

    private final Random random;
    private final MeterHall hall = new MeterHall();
    private final MachineHall machine = new MachineHall();
    private final boolean clears;
    private int made;

    private RandomRunsTest(int seed) {
        random = new Random(seed);
        clears = seed % 3 == 0;
    }

    public static void main(String[] args) {
        CHECK.sentence("all promises, in runs of " + CALLS + " calls");
        for (int seed = 0; seed < RUNS; seed++) {
            RandomRunsTest run = new RandomRunsTest(seed);
            for (int k = 0; k < CALLS; k++) {
                run.call("run " + seed + ", call " + k + ": ");
            }
        }
        CHECK.done();
    }

    private void call(String at) {
        int kind = random.nextInt(100);
        if (kind < 30) {
            numbersAndMeters(at, kind / 3);
        } else if (kind < 65) {
            tracks(at, (kind - 30) / 4);
        } else if (kind < 88) {
            racks(at, (kind - 65) / 4);
        } else {
            tells(at, kind - 88);
        }
    }

    private void numbersAndMeters(String at, int kind) {
        int form = aForm();
        long a = SomeBits.of(random, Math.floorMod(form, 4));
        long b = SomeBits.of(random, Math.floorMod(form, 4));
        int m = aMeter();
        if (kind == 0) {
            int to = aForm();
            CHECK.due(at + "turned(" + form + ", " + to + ", " + a + ")", hall.turned(form, to, a), machine.turned(form, to, a));
        } else if (kind == 1) {
            CHECK.due(at + "rest(" + form + ", " + a + ", " + b + ")", hall.rest(form, a, b), machine.rest(form, a, b));
        } else if (kind == 2) {
            CHECK.due(at + "order(" + form + ", " + a + ", " + b + ")", hall.order(form, a, b), machine.order(form, a, b));
        } else if (kind < 5) {
            int got = hall.meter(form, a);
            made = Math.max(made, got + 1);
            CHECK.due(at + "meter(" + form + ", " + a + ")", got, machine.meter(form, a));
        } else if (kind < 7) {
            long own = SomeBits.of(random, machine.formOfMeter(m));
            CHECK.due(at + "count(" + m + ", " + own + ")", hall.count(m, own), machine.count(m, own));
        } else if (kind == 7) {
            int from = aMeter();
            CHECK.due(at + "carry(" + m + ", " + from + ")", hall.carry(m, from), machine.carry(m, from));
        } else {
            int what = near(0, 3);
            CHECK.due(at + "value(" + m + ", " + what + ")", hall.value(m, what), machine.value(m, what));
        }
    }

    private void tracks(String at, int kind) {
        int t = near(0, 11);
        int form = aTrackForm(t);
        int i = random.nextInt(8) == 0 ? near(0, 20) : random.nextInt(4);
        int m = aMeter();
        if (kind == 0) {
            int n = near(0, 20);
            CHECK.due(at + "track(" + t + ", " + form + ", " + n + ")", hall.track(t, form, n), machine.track(t, form, n));
        } else if (kind == 1) {
            int from = random.nextInt(6) == 0 ? MeterHall.NONE : near(0, 11);
            CHECK.due(at + "share(" + t + ", " + from + ")", hall.share(t, from), machine.share(t, from));
        } else if (kind == 2) {
            if (random.nextBoolean()) {
                CHECK.due(at + "form(" + t + ")", hall.form(t), machine.form(t));
            } else {
                CHECK.due(at + "length(" + t + ", " + form + ")", hall.length(t, form), machine.length(t, form));
            }
        } else if (kind < 5) {
            long bits = SomeBits.of(random, form == 2 ? 2 : 3);
            CHECK.due(at + "write(" + t + ", " + form + ", " + i + ", " + bits + ")",
                hall.write(t, form, i, bits), machine.write(t, form, i, bits));
        } else if (kind == 5) {
            CHECK.dueRead(hall, t, form, i, machine.read(t, form, i));
        } else if (kind == 6) {
            CHECK.due(at + "feed(" + m + ", " + t + ", " + form + ", " + i + ")",
                hall.feed(m, t, form, i), machine.feed(m, t, form, i));
        } else {
            CHECK.due(at + "log(" + m + ", " + t + ", " + form + ", " + i + ")",
                hall.log(m, t, form, i), machine.log(m, t, form, i));
        }
    }

    private void racks(String at, int kind) {
        int r = near(0, 11);
        int form = near(0, 4);
        int i = random.nextInt(6) == 0 ? near(0, 10) : random.nextInt(3);
        if (kind == 0) {
            int n = random.nextBoolean() ? near(0, 10) : near(1, 3);
            CHECK.due(at + "rack(" + form + ", " + n + ")", hall.rack(form, n), machine.rack(form, n));
        } else if (kind < 3) {
            int m = random.nextInt(8) == 0 ? MeterHall.NONE : aMeter();
            CHECK.due(at + "hang(" + r + ", " + form + ", " + i + ", " + m + ")",
                hall.hang(r, form, i, m), machine.hang(r, form, i, m));
        } else if (kind == 3) {
            CHECK.due(at + "shown(" + r + ", " + i + ")", hall.shown(r, i), machine.shown(r, i));
        } else if (kind == 4) {
            CHECK.due(at + "sum(" + r + ", " + i + ")", hall.sum(r, i), machine.sum(r, i));
        } else {
            CHECK.due(at + "many(" + r + ", " + form + ")", hall.many(r, form), machine.many(r, form));
        }
    }

    private void tells(String at, int kind) {
        if (kind < 6) {
            CHECK.due(at + "finding()", hall.finding(), machine.finding());
        } else if (kind < 11 || !clears || random.nextInt(3) != 0) {
            int what = near(0, 8);
            CHECK.due(at + "told(" + what + ")", hall.told(what), machine.told(what));
        } else {
            made = 0;
            CHECK.due(at + "clear()", hall.clear(), machine.clear());
        }
    }

    private int aForm() {
        return near(0, 3);
    }

    private int aMeter() {
        return near(0, made == 0 ? 1 : made - 1);
    }

    private int aTrackForm(int track) {
        int own = machine.form(track);
        if (own >= 0 && random.nextInt(4) != 0) {
            return own;
        }
        return random.nextInt(10) == 0 ? near(0, 5) : 2 + random.nextInt(2);
    }

    /** Mostly a number of the span; now and then one just outside it, or far. */
    private int near(int least, int most) {
        switch (random.nextInt(24)) {
            case 0:
                return least - 1;
            case 1:
                return most + 1;
            case 2:
                return random.nextInt();
            default:
                return least + random.nextInt(most - least + 1);
        }
    }
}
