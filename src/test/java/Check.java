/** Collects answers that are not as due; each test's main ends with done(). */
final class Check {
    private int asked;
    private int wrong;

    void due(String call, long got, long want) {
        asked++;
        if (got != want) {
            wrong++;
            System.out.println(call + " answered " + got + ", due is " + want);
        }
    }

    /** What read throws, by its simple name; the answer as text if it throws nothing. */
    static String readOf(MeterHall hall, int track, int form, int i) {
        try {
            return Long.toString(hall.read(track, form, i));
        } catch (RuntimeException thrown) {
            // The class throws with texts of its own; another text is the machine's, which is never to throw in it.
            boolean own = thrown.getMessage() != null && thrown.getMessage().startsWith("the track ");
            return (own ? "" : "the machine's ") + thrown.getClass().getSimpleName();
        }
    }

    void dueRead(MeterHall hall, int track, int form, int i, String want) {
        String got = readOf(hall, track, form, i);
        asked++;
        if (!got.equals(want)) {
            wrong++;
            System.out.println("read(" + track + ", " + form + ", " + i + ") gave " + got + ", due is " + want);
        }
    }

    void done() {
        System.out.println(asked + " answers, " + wrong + " not as due");
        if (wrong != 0) {
            System.exit(1);
        }
    }

    static long single(float x) {
        return Float.floatToRawIntBits(x);
    }

    static long real(double x) {
        return Double.doubleToRawLongBits(x);
    }
}
