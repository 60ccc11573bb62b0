/**
 * A second hall for the tests, which lets the machine do what MeterHall reckons: its numbers are the machine's,
 * its rows and racks are arrays, and its findings are what the machine throws.
 */
final class MachineHall {
    private abstract static class M {
        Number value;
        Number limit;
    }

    private static final class Whole extends M { }

    private static final class Long_ extends M { }

    private static final class Single extends M { }

    private static final class Real extends M { }

    private final M[] meters = new M[24];
    private final Object[] tracks = new Object[12];
    private final M[][] racks = new M[12][];
    private final int[] counts = new int[7];
    private int made;
    private int racked;
    private int places;
    private int latest;

    private static Number number(int form, long bits) {
        switch (form) {
            case 0:
                return bits == (int) bits ? Integer.valueOf((int) bits) : null;
            case 1:
                return bits;
            case 2:
                float single = Float.intBitsToFloat((int) bits);
                return bits != (int) bits || Float.isNaN(single) ? null : Float.valueOf(single);
            case 3:
                double real = Double.longBitsToDouble(bits);
                return Double.isNaN(real) ? null : Double.valueOf(real);
            default:
                return null;
        }
    }

    private static long bits(Number number) {
        if (number instanceof Float) {
            return Float.floatToRawIntBits(number.floatValue());
        }
        return number instanceof Double ? Double.doubleToRawLongBits(number.doubleValue()) : number.longValue();
    }

    private static Number turn(Number number, int to) {
        switch (to) {
            case 0:
                return number.intValue();
            case 1:
                return number.longValue();
            case 2:
                return number.floatValue();
            default:
                return number.doubleValue();
        }
    }

    private static boolean endless(Number number) {
        return !(number instanceof Long) && Double.isInfinite(number.doubleValue());
    }

    private static boolean zero(Number number) {
        return number instanceof Long ? number.longValue() == 0 : number.doubleValue() == 0;
    }

    private static Number remainder(Number a, Number b) {
        if (a instanceof Integer) {
            return a.intValue() % b.intValue();
        }
        if (a instanceof Long) {
            return a.longValue() % b.longValue();
        }
        if (a instanceof Float) {
            return a.floatValue() % b.floatValue();
        }
        return a.doubleValue() % b.doubleValue();
    }

    private static Number plus(Number a, Number b) {
        if (a instanceof Integer) {
            return a.intValue() + b.intValue();
        }
        if (a instanceof Long) {
            return a.longValue() + b.longValue();
        }
        if (a instanceof Float) {
            return a.floatValue() + b.floatValue();
        }
        return a.doubleValue() + b.doubleValue();
    }

    private static int formOf(M meter) {
        return meter instanceof Whole ? 0 : meter instanceof Long_ ? 1 : meter instanceof Single ? 2 : 3;
    }

    private static int findingOf(RuntimeException thrown) {
        if (thrown instanceof ClassCastException) {
            return 1;
        }
        if (thrown instanceof ArrayIndexOutOfBoundsException) {
            return 2;
        }
        if (thrown instanceof ArrayStoreException) {
            return 3;
        }
        if (thrown instanceof NullPointerException) {
            return 4;
        }
        if (thrown instanceof NegativeArraySizeException) {
            return 5;
        }
        throw thrown;
    }

    private int tell(int finding) {
        counts[finding]++;
        return -40 - finding;
    }

    private int tell(RuntimeException thrown) {
        return tell(findingOf(thrown));
    }

    private long none(int why) {
        latest = why;
        return 0;
    }

    private long some(long bits) {
        latest = 0;
        return bits;
    }

    private M meterAt(int k) {
        return k >= 0 && k < made ? meters[k] : null;
    }

    /** For the tests' choice of numbers; a meter that is not there has some form, too. */
    int formOfMeter(int k) {
        return formOf(meterAt(k));
    }

    private int counted(M meter, Number number) {
        Number x = turn(number, formOf(meter));
        Number sum = endless(x) ? x : plus(meter.value, x);
        if (endless(sum)) {
            return tell(6);
        }
        meter.value = remainder(sum, meter.limit);
        return 1;
    }

    private Number taken(int track, int form, int i) {
        if (form == 2) {
            return ((float[]) tracks[track])[i];
        }
        return ((double[]) tracks[track])[i];
    }

    private int placed(int track, int form, int i, Number number) {
        try {
            if (form == 2) {
                ((float[]) tracks[track])[i] = number.floatValue();
            } else {
                ((double[]) tracks[track])[i] = number.doubleValue();
            }
            return 1;
        } catch (RuntimeException thrown) {
            return tell(thrown);
        }
    }

    private static boolean isTrack(int track) {
        return track >= 0 && track < 12;
    }

    private static boolean isTrackForm(int form) {
        return form == 2 || form == 3;
    }

    long turned(int form, int to, long bits) {
        Number number = number(form, bits);
        return number == null || to < 0 || to > 3 ? none(-2) : some(bits(turn(number, to)));
    }

    long rest(int form, long a, long b) {
        Number first = number(form, a);
        Number second = number(form, b);
        if (first == null || second == null || endless(first) || zero(second)) {
            return none(-2);
        }
        return some(bits(remainder(first, second)));
    }

    int order(int form, long a, long b) {
        Number first = number(form, a);
        Number second = number(form, b);
        if (first == null || second == null) {
            return -2;
        }
        if (form == 1) {
            return Long.compare(a, b) + 1;
        }
        double x = first.doubleValue();
        double y = second.doubleValue();
        return x < y ? 0 : x == y ? 1 : 2;
    }

    int meter(int form, long limit) {
        Number number = number(form, limit);
        if (number == null || zero(number) || endless(number)) {
            return -2;
        }
        if (made == 24) {
            return -4;
        }
        M meter = form == 0 ? new Whole() : form == 1 ? new Long_() : form == 2 ? new Single() : new Real();
        meter.limit = number;
        meter.value = number(form, 0);
        meters[made] = meter;
        return made++;
    }

    int count(int meter, long x) {
        M counting = meterAt(meter);
        if (counting == null) {
            return -1;
        }
        Number number = number(formOf(counting), x);
        return number == null || endless(number) ? -2 : counted(counting, number);
    }

    int carry(int meter, int from) {
        M counting = meterAt(meter);
        M other = meterAt(from);
        return counting == null || other == null ? -1 : counted(counting, other.value);
    }

    long value(int meter, int what) {
        M asked = meterAt(meter);
        if (asked == null) {
            return none(-1);
        }
        if (what < 0 || what > 3) {
            return none(-2);
        }
        long[] all = {bits(asked.value), bits(asked.limit), asked.value.longValue(), formOf(asked)};
        return some(all[what]);
    }

    int track(int track, int form, int n) {
        if (!isTrack(track)) {
            return -1;
        }
        if (!isTrackForm(form) || n > 20) {
            return -2;
        }
        if (places >= 3000) {
            return -4;
        }
        try {
            tracks[track] = form == 2 ? new float[n] : new double[n];
        } catch (RuntimeException thrown) {
            return tell(thrown);
        }
        places += n;
        return 1;
    }

    int share(int track, int from) {
        if (!isTrack(track) || !isTrack(from) && from != -5) {
            return -1;
        }
        int held = tracks[track] == null ? 0 : 1;
        tracks[track] = from == -5 ? null : tracks[from];
        return held;
    }

    int form(int track) {
        if (!isTrack(track)) {
            return -1;
        }
        return tracks[track] == null ? -5 : tracks[track] instanceof float[] ? 2 : 3;
    }

    int length(int track, int form) {
        if (!isTrack(track)) {
            return -1;
        }
        if (!isTrackForm(form)) {
            return -2;
        }
        try {
            return form == 2 ? ((float[]) tracks[track]).length : ((double[]) tracks[track]).length;
        } catch (RuntimeException thrown) {
            return tell(thrown);
        }
    }

    int write(int track, int form, int i, long bits) {
        if (!isTrack(track)) {
            return -1;
        }
        if (!isTrackForm(form) || number(form, bits) == null) {
            return -2;
        }
        return placed(track, form, i, number(form, bits));
    }

    String read(int track, int form, int i) {
        if (!isTrack(track) || !isTrackForm(form)) {
            return "0";
        }
        try {
            return Long.toString(bits(taken(track, form, i)));
        } catch (RuntimeException thrown) {
            return thrown.getClass().getSimpleName();
        }
    }

    int feed(int meter, int track, int form, int i) {
        M counting = meterAt(meter);
        if (counting == null || !isTrack(track)) {
            return -1;
        }
        if (!isTrackForm(form)) {
            return -2;
        }
        Number number;
        try {
            number = taken(track, form, i);
        } catch (RuntimeException thrown) {
            return tell(thrown);
        }
        return counted(counting, number);
    }

    int log(int meter, int track, int form, int i) {
        M logged = meterAt(meter);
        if (logged == null || !isTrack(track)) {
            return -1;
        }
        return isTrackForm(form) ? placed(track, form, i, turn(logged.value, form)) : -2;
    }

    private static M[] newRack(int form, int n) {
        switch (form) {
            case 0:
                return new Whole[n];
            case 1:
                return new Long_[n];
            case 2:
                return new Single[n];
            case 3:
                return new Real[n];
            default:
                return new M[n];
        }
    }

    int rack(int form, int n) {
        if (form < 0 || form > 4 || n > 10) {
            return -2;
        }
        if (racked == 12) {
            return -4;
        }
        try {
            racks[racked] = newRack(form, n);
        } catch (RuntimeException thrown) {
            return tell(thrown);
        }
        return racked++;
    }

    private M[] rackAt(int k) {
        return k >= 0 && k < racked ? racks[k] : null;
    }

    private static void hung(M[] rack, int form, int i, M meter) {
        switch (form) {
            case 0:
                ((Whole[]) rack)[i] = (Whole) meter;
                break;
            case 1:
                ((Long_[]) rack)[i] = (Long_) meter;
                break;
            case 2:
                ((Single[]) rack)[i] = (Single) meter;
                break;
            case 3:
                ((Real[]) rack)[i] = (Real) meter;
                break;
            default:
                rack[i] = meter;
        }
    }

    int hang(int rack, int form, int i, int meter) {
        if (rackAt(rack) == null || meterAt(meter) == null && meter != -5) {
            return -1;
        }
        if (form < 0 || form > 4) {
            return -2;
        }
        try {
            hung(rackAt(rack), form, i, meterAt(meter));
            return 1;
        } catch (RuntimeException thrown) {
            return tell(thrown);
        }
    }

    long shown(int rack, int i) {
        if (rackAt(rack) == null) {
            return none(-1);
        }
        try {
            return some(rackAt(rack)[i].value.longValue());
        } catch (RuntimeException thrown) {
            return none(tell(thrown));
        }
    }

    long sum(int rack, int i) {
        if (rackAt(rack) == null) {
            return none(-1);
        }
        if (i < 0 || i > rackAt(rack).length) {
            return none(tell(2));
        }
        try {
            long sum = 0;
            for (int k = i; k < rackAt(rack).length; k++) {
                sum += rackAt(rack)[k].value.longValue();
            }
            return some(sum);
        } catch (RuntimeException thrown) {
            return none(tell(thrown));
        }
    }

    int many(int rack, int form) {
        if (rackAt(rack) == null) {
            return -1;
        }
        if (form < 0 || form > 3) {
            return -2;
        }
        int many = 0;
        for (M meter : rackAt(rack)) {
            many += meter != null && formOf(meter) == form ? 1 : 0;
        }
        return many;
    }

    int finding() {
        return latest;
    }

    int told(int what) {
        if (what < 0 || what > 8) {
            return -2;
        }
        int held = 0;
        for (Object row : tracks) {
            held += row == null ? 0 : 1;
        }
        return what == 0 ? made : what == 1 ? held : what == 2 ? racked : counts[what - 2];
    }

    int clear() {
        int were = made;
        java.util.Arrays.fill(meters, null);
        java.util.Arrays.fill(tracks, null);
        java.util.Arrays.fill(racks, null);
        java.util.Arrays.fill(counts, 0);
        made = 0;
        racked = 0;
        return were;
    }
}
