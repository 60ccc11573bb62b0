import java.util.ArrayList;
import java.util.List;

/**
 * All that a hall can be asked for, as rows of text. The hall is used up by it: what TRACKS and RACKS have in common
 * comes to light only when something is written and counted, and what was made ever only when more is made.
 */
final class State {
    private static final int MOST_ROWS = 160;

    private final MeterHall hall;
    private final List<String> rows = new ArrayList<>();

    private State(MeterHall hall) {
        this.hall = hall;
    }

    static List<String> of(MeterHall hall) {
        State state = new State(hall);
        int meters = hall.told(0);
        int racks = hall.told(2);
        state.meters(meters);
        state.tracks();
        state.racks(racks);
        for (int track = 0; track < 12; track++) {
            hall.write(track, hall.form(track), 0, 7 + track);
        }
        state.places();
        for (int meter = 0; meter < Math.min(meters, 4); meter++) {
            hall.count(meter, 1 + meter);
        }
        state.shown(racks);
        state.add("the next meter", hall.meter(0, 5));
        state.add("the next rack", hall.rack(0, 0));
        state.rowsToCome();
        return state.rows;
    }

    private void add(String call, Object answer) {
        rows.add(call + " = " + answer);
    }

    private void meters(int meters) {
        for (int meter = 0; meter < meters; meter++) {
            for (int what = 0; what < 4; what++) {
                add("value(" + meter + ", " + what + ")", hall.value(meter, what));
            }
        }
    }

    private void tracks() {
        for (int track = 0; track < 12; track++) {
            int form = hall.form(track);
            add("form(" + track + ")", form);
            if (form != MeterHall.NONE) {
                add("length(" + track + ")", hall.length(track, form));
            }
        }
        places();
    }

    private void places() {
        for (int track = 0; track < 4; track++) {
            for (int i = 0; i < 2; i++) {
                add("read(" + track + ", " + i + ")", Check.readOf(hall, track, hall.form(track), i));
            }
        }
    }

    private void racks(int racks) {
        for (int rack = 0; rack < racks; rack++) {
            for (int form = 0; form < 4; form++) {
                add("many(" + rack + ", " + form + ")", hall.many(rack, form));
            }
        }
        shown(racks);
    }

    private void shown(int racks) {
        for (int rack = 0; rack < racks; rack++) {
            for (int i = 0; i < 4 && rack < 5; i++) {
                add("shown(" + rack + ", " + i + ")", hall.shown(rack, i));
                add("finding() of it", hall.finding());
            }
        }
    }

    private void rowsToCome() {
        int made = 0;
        while (made < MOST_ROWS && hall.track(11, 3, 20) == 1) {
            made++;
        }
        add("rows of 20 places until it is full", made);
    }
}
