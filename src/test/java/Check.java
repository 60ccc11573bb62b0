/** Collects answers that are not as due, by the document's sentence that asks for them; each main ends with done(). */
final class Check {
    private String sentence = "";
    private int asked;
    private int wrong;

    /** The words of the document that the answers from here on are held against. */
    void sentence(String words) {
        sentence = words;
    }

    void due(String call, long got, long want) {
        asked++;
        if (got != want) {
            tell(call, Long.toString(got), Long.toString(want));
        }
    }

    void due(String call, String got, String want) {
        asked++;
        if (!got.equals(want)) {
            tell(call, got, want);
        }
    }

    private void tell(String call, String got, String want) {
        wrong++;
        System.out.println("'" + sentence + "': " + call + " gave " + got + ", due is " + want);
    }

    void dueRead(MeterHall hall, int track, int form, int i, long want) {
        dueRead(hall, track, form, i, Long.toString(want));
    }

    void dueRead(MeterHall hall, int track, int form, int i, String want) {
        due("read(" + track + ", " + form + ", " + i + ")", readOf(hall, track, form, i), want);
    }

    /** What read throws, by its simple name; the answer as text if it throws nothing. */
    static String readOf(MeterHall hall, int track, int form, int i) {
        try {
            return Long.toString(hall.read(track, form, i));
        } catch (RuntimeException thrown) {
            return (isOfTheMachine(thrown) ? "the machine's " : "") + thrown.getClass().getSimpleName();
        }
    }

    /** The class is to throw by itself, never to let the machine do it; the machine's texts begin like this. */
    private static boolean isOfTheMachine(RuntimeException thrown) {
        String text = thrown.getMessage() == null ? "" : thrown.getMessage();
        return text.startsWith("Index ") || text.startsWith("Cannot ") || text.contains(" cannot be cast to ");
    }

    void done() {
        System.out.println(asked + " answers, " + wrong + " not as due");
        if (wrong != 0) {
            System.exit(1);
        }
    }

    static long single(float x) {
        return Float.floatToRawIntBits(x);
    }

    static long real(double x) {
        return Double.doubleToRawLongBits(x);
    }
}
