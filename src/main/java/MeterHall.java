/** A hall of meters that go round; the document's numbered promises say what each call answers. */
public final class MeterHall {
    public static final int UNKNOWN = -1, OUTSIDE = -2, FULL = -4, NONE = -5;

    private static final int DONE = 1;
    private static final int FINE = 0, CAST = 1, PLACE = 2, STORE = 3, NOTHING = 4, SIZE = 5, GREAT = 6;
    private static final int ABOVE_FINDINGS = -40;
    private static final int ANY_FORM = 4;
    private static final int MOST_METERS = 24, MOST_TRACKS = 12, MOST_RACKS = 12;
    private static final int LONGEST_TRACK = 20, LONGEST_RACK = 10, MOST_PLACES_MADE = 3000;

    private final Meter[] meters = new Meter[MOST_METERS];
    private final Row[] tracks = new Row[MOST_TRACKS];
    private final Rack[] racks = new Rack[MOST_RACKS];
    private final int[] findings = new int[GREAT + 1];
    private int metersMade;
    private int racksMade;
    private int placesMade;
    private int latest;

    public MeterHall() {
    }

    public long turned(int form, int to, long bits) {
        if (!Numbers.isForm(to) || !Numbers.areBits(form, bits)) {
            return refused(OUTSIDE);
        }
        return answered(Numbers.turn(form, to, bits));
    }

    public long rest(int form, long a, long b) {
        if (!Numbers.areBits(form, a) || !Numbers.areBits(form, b)) {
            return refused(OUTSIDE);
        }
        if (Numbers.isEndless(form, a) || Numbers.isZero(form, b)) {
            return refused(OUTSIDE);
        }
        return answered(Numbers.remainder(form, a, b));
    }

    public int order(int form, long a, long b) {
        if (!Numbers.areBits(form, a) || !Numbers.areBits(form, b)) {
            return OUTSIDE;
        }
        return Numbers.compare(form, a, b) + 1;
    }

    public int meter(int form, long limit) {
        if (!Numbers.areBits(form, limit) || Numbers.isZero(form, limit) || Numbers.isEndless(form, limit)) {
            return OUTSIDE;
        }
        if (metersMade >= meters.length) {
            return FULL;
        }
        meters[metersMade] = new Meter(form, limit);
        metersMade++;
        return metersMade - 1;
    }

    public int count(int meter, long x) {
        Meter counting = meterAt(meter);
        if (counting == null) {
            return UNKNOWN;
        }
        if (!Numbers.areBits(counting.form, x) || Numbers.isEndless(counting.form, x)) {
            return OUTSIDE;
        }
        return advance(counting, counting.form, x);
    }

    public int carry(int meter, int from) {
        Meter counting = meterAt(meter);
        Meter other = meterAt(from);
        if (counting == null || other == null) {
            return UNKNOWN;
        }
        return advance(counting, other.form, other.value);
    }

    public long value(int meter, int what) {
        Meter asked = meterAt(meter);
        if (asked == null) {
            return refused(UNKNOWN);
        }
        switch (what) {
            case 0:
                return answered(asked.value);
            case 1:
                return answered(asked.limit);
            case 2:
                return answered(asked.face());
            case 3:
                return answered(asked.form);
            default:
                return refused(OUTSIDE);
        }
    }

    public int track(int track, int form, int n) {
        if (!isTrack(track)) {
            return UNKNOWN;
        }
        if (!Numbers.isReal(form) || n > LONGEST_TRACK) {
            return OUTSIDE;
        }
        if (placesMade >= MOST_PLACES_MADE) {
            return FULL;
        }
        if (n < 0) {
            return found(SIZE);
        }
        tracks[track] = new Row(form, n);
        placesMade += n;
        return DONE;
    }

    public int share(int track, int from) {
        if (!isTrack(track) || !isTrack(from) && from != NONE) {
            return UNKNOWN;
        }
        boolean held = tracks[track] != null;
        tracks[track] = isTrack(from) ? tracks[from] : null;
        return held ? 1 : 0;
    }

    public int form(int track) {
        if (!isTrack(track)) {
            return UNKNOWN;
        }
        Row row = tracks[track];
        return row == null ? NONE : row.form;
    }

    public int length(int track, int form) {
        if (!isTrack(track)) {
            return UNKNOWN;
        }
        if (!Numbers.isReal(form)) {
            return OUTSIDE;
        }
        Row row = tracks[track];
        if (row == null) {
            return found(NOTHING);
        }
        return row.form == form ? row.places.length : found(CAST);
    }

    public int write(int track, int form, int i, long bits) {
        if (!isTrack(track)) {
            return UNKNOWN;
        }
        if (!Numbers.isReal(form) || !Numbers.areBits(form, bits)) {
            return OUTSIDE;
        }
        return put(tracks[track], form, i, bits);
    }

    public long read(int track, int form, int i)
            throws ClassCastException, NullPointerException, ArrayIndexOutOfBoundsException {
        if (!isTrack(track) || !Numbers.isReal(form)) {
            return 0;
        }
        Row row = tracks[track];
        if (row == null) {
            throw new NullPointerException("the track holds nothing");
        }
        if (row.form != form) {
            throw new ClassCastException("the track holds a row of the other form");
        }
        if (!isPlace(i, row.places.length)) {
            throw new ArrayIndexOutOfBoundsException("the track has no such place");
        }
        return row.places[i];
    }

    public int feed(int meter, int track, int form, int i) {
        Meter counting = meterAt(meter);
        if (counting == null || !isTrack(track)) {
            return UNKNOWN;
        }
        if (!Numbers.isReal(form)) {
            return OUTSIDE;
        }
        Row row = tracks[track];
        int bar = barAt(row, form, i);
        if (row == null || bar != FINE) {
            return found(bar);
        }
        return advance(counting, form, row.places[i]);
    }

    public int log(int meter, int track, int form, int i) {
        Meter logged = meterAt(meter);
        if (logged == null || !isTrack(track)) {
            return UNKNOWN;
        }
        if (!Numbers.isReal(form)) {
            return OUTSIDE;
        }
        return put(tracks[track], form, i, Numbers.turn(logged.form, form, logged.value));
    }

    public int rack(int form, int n) {
        if (!isRackForm(form) || n > LONGEST_RACK) {
            return OUTSIDE;
        }
        if (racksMade >= racks.length) {
            return FULL;
        }
        if (n < 0) {
            return found(SIZE);
        }
        racks[racksMade] = new Rack(form, n);
        racksMade++;
        return racksMade - 1;
    }

    public int hang(int rack, int form, int i, int meter) {
        Rack holder = rackAt(rack);
        Meter hung = meterAt(meter);
        if (holder == null || hung == null && meter != NONE) {
            return UNKNOWN;
        }
        if (!isRackForm(form)) {
            return OUTSIDE;
        }
        if (!passesFor(form, holder.form) || hung != null && !passesFor(form, hung.form)) {
            return found(CAST);
        }
        if (!isPlace(i, holder.places.length)) {
            return found(PLACE);
        }
        if (hung != null && !passesFor(holder.form, hung.form)) {
            return found(STORE);
        }
        holder.places[i] = hung;
        return DONE;
    }

    public long shown(int rack, int i) {
        Rack asked = rackAt(rack);
        if (asked == null) {
            return refused(UNKNOWN);
        }
        if (!isPlace(i, asked.places.length)) {
            return refused(found(PLACE));
        }
        Meter hung = asked.places[i];
        if (hung == null) {
            return refused(found(NOTHING));
        }
        return answered(hung.face());
    }

    public long sum(int rack, int i) {
        Rack asked = rackAt(rack);
        if (asked == null) {
            return refused(UNKNOWN);
        }
        if (i < 0 || i > asked.places.length) {
            return refused(found(PLACE));
        }
        long total = 0;
        for (int at = i; at < asked.places.length; at++) {
            Meter hung = asked.places[at];
            if (hung == null) {
                return refused(found(NOTHING));
            }
            total += hung.face();
        }
        return answered(total);
    }

    public int many(int rack, int form) {
        Rack asked = rackAt(rack);
        if (asked == null) {
            return UNKNOWN;
        }
        if (!Numbers.isForm(form)) {
            return OUTSIDE;
        }
        int counted = 0;
        for (Meter hung : asked.places) {
            if (hung != null && hung.form == form) {
                counted++;
            }
        }
        return counted;
    }

    public int finding() {
        return latest;
    }

    public int told(int what) {
        switch (what) {
            case 0:
                return metersMade;
            case 1:
                return tracksInUse();
            case 2:
                return racksMade;
            default:
                int number = what - 2;
                return isFinding(number) ? findings[number] : OUTSIDE;
        }
    }

    public int clear() {
        int were = metersMade;
        for (int k = 0; k < meters.length; k++) {
            meters[k] = null;
        }
        for (int k = 0; k < tracks.length; k++) {
            tracks[k] = null;
        }
        for (int k = 0; k < racks.length; k++) {
            racks[k] = null;
        }
        for (int k = 0; k < findings.length; k++) {
            findings[k] = 0;
        }
        metersMade = 0;
        racksMade = 0;
        return were;
    }

    private long answered(long bits) {
        latest = 0;
        return bits;
    }

    private long refused(int why) {
        latest = why;
        return 0;
    }

    private int found(int number) {
        if (isFinding(number)) {
            findings[number]++;
        }
        return ABOVE_FINDINGS - number;
    }

    private boolean isFinding(int number) {
        return number > FINE && number < findings.length;
    }

    private Meter meterAt(int number) {
        return number >= 0 && number < meters.length ? meters[number] : null;
    }

    private Rack rackAt(int number) {
        return number >= 0 && number < racks.length ? racks[number] : null;
    }

    private boolean isTrack(int number) {
        return number >= 0 && number < tracks.length;
    }

    private int tracksInUse() {
        int held = 0;
        for (Row row : tracks) {
            if (row != null) {
                held++;
            }
        }
        return held;
    }

    private int advance(Meter counting, int form, long bits) {
        int own = counting.form;
        long x = Numbers.turn(form, own, bits);
        // Only a finite x may be added: both infinite ones together would make what is no number.
        if (Numbers.isEndless(own, x)) {
            return found(GREAT);
        }
        long raised = Numbers.plus(own, counting.value, x);
        if (Numbers.isEndless(own, raised)) {
            return found(GREAT);
        }
        counting.value = Numbers.remainder(own, raised, counting.limit);
        return DONE;
    }

    private int put(Row row, int form, int i, long bits) {
        int bar = barAt(row, form, i);
        if (row == null || bar != FINE) {
            return found(bar);
        }
        row.places[i] = bits;
        return DONE;
    }

    private static int barAt(Row row, int form, int i) {
        if (row == null) {
            return NOTHING;
        }
        if (row.form != form) {
            return CAST;
        }
        return isPlace(i, row.places.length) ? FINE : PLACE;
    }

    private static boolean isPlace(int i, int length) {
        return i >= 0 && i < length;
    }

    private static boolean isRackForm(int form) {
        return Numbers.isForm(form) || form == ANY_FORM;
    }

    private static boolean passesFor(int wanted, int form) {
        return wanted == ANY_FORM || wanted == form;
    }

    private static final class Meter {
        final int form;
        final long limit;
        long value;

        Meter(int form, long limit) {
            this.form = form;
            this.limit = limit;
        }

        long face() {
            return Numbers.turn(form, Numbers.LONG, value);
        }
    }

    /** A track's row; it holds bits, and those of 0.0 are 0 in both forms, as a new array has them. */
    private static final class Row {
        final int form;
        final long[] places;

        Row(int form, int n) {
            this.form = form;
            this.places = new long[n];
        }
    }

    private static final class Rack {
        final int form;
        final Meter[] places;

        Rack(int form, int n) {
            this.form = form;
            this.places = new Meter[n];
        }
    }

    /**
     * Numbers told by their bits. All is reckoned in longs, since the part of Java that binds this file
     * has no way between a float and its bits, and no remainder of floats.
     *
     * A real number that is not endless is mantissa * 2^exponent, with its sign apart; the bits of both
     * real forms are below 0 just when the sign is set, a SINGLE's being an int's.
     */
    private static final class Numbers {
        static final int WHOLE = 0, LONG = 1, SINGLE = 2, DOUBLE = 3;

        /** A mantissa of 53 bits moved up by 9 leaves a bit for a sum's carry, and one for the sign. */
        private static final int ROOM_FOR_SUM = 9;
        /** A remainder of 53 bits moved up by 10 still stays below the sign. */
        private static final int ROOM_FOR_REMAINDER = 10;
        private static final int LONG_BITS = 63;

        static boolean isForm(int form) {
            return form >= WHOLE && form <= DOUBLE;
        }

        static boolean isReal(int form) {
            return form == SINGLE || form == DOUBLE;
        }

        static boolean areBits(int form, long bits) {
            if (form == WHOLE) {
                return isInt(bits);
            }
            if (form == SINGLE) {
                return isInt(bits) && magnitude(form, bits) <= endless(form);
            }
            return form == LONG || form == DOUBLE && magnitude(form, bits) <= endless(form);
        }

        static boolean isEndless(int form, long bits) {
            return isReal(form) && magnitude(form, bits) == endless(form);
        }

        static boolean isZero(int form, long bits) {
            return isReal(form) ? magnitude(form, bits) == 0 : bits == 0;
        }

        static int compare(int form, long a, long b) {
            long first = isReal(form) ? ranked(form, a) : a;
            long second = isReal(form) ? ranked(form, b) : b;
            return first < second ? -1 : first > second ? 1 : 0;
        }

        static long turn(int form, int to, long bits) {
            if (form == to) {
                return bits;
            }
            if (isReal(form)) {
                return isReal(to) ? realToReal(form, to, bits) : realToInteger(form, to, bits);
            }
            if (isReal(to)) {
                return integerToReal(to, bits);
            }
            return to == WHOLE ? (int) bits : bits;
        }

        static long plus(int form, long a, long b) {
            if (!isReal(form)) {
                return form == WHOLE ? (int) (a + b) : a + b;
            }
            boolean inOrder = exponent(form, a) >= exponent(form, b);
            return inOrder ? realPlus(form, a, b) : realPlus(form, b, a);
        }

        static long remainder(int form, long a, long b) {
            if (isReal(form)) {
                return realRemainder(form, a, b);
            }
            // No caller hands a 0 on; the least by -1 is told to be 0, and so is every other one's.
            return b == 0 || b == -1 ? 0 : a % b;
        }

        private static boolean isInt(long bits) {
            return bits == (int) bits;
        }

        private static int fractionBits(int form) {
            return form == SINGLE ? 23 : 52;
        }

        private static int leastExponent(int form) {
            return form == SINGLE ? -149 : -1074;
        }

        private static long endless(int form) {
            return form == SINGLE ? 0x7f800000L : 0x7ff0000000000000L;
        }

        private static long magnitude(int form, long bits) {
            return bits & (form == SINGLE ? 0x7fffffffL : 0x7fffffffffffffffL);
        }

        private static long signed(int form, boolean negative, long magnitude) {
            if (!negative) {
                return magnitude;
            }
            return magnitude | (form == SINGLE ? 0xffffffff80000000L : 0x8000000000000000L);
        }

        /** Magnitudes stand in the order of their numbers, and both zeros share the rank 0. */
        private static long ranked(int form, long bits) {
            return bits < 0 ? -magnitude(form, bits) : magnitude(form, bits);
        }

        private static long mantissa(int form, long bits) {
            long unit = 1L << fractionBits(form);
            long magnitude = magnitude(form, bits);
            long fraction = magnitude & (unit - 1);
            return magnitude < unit ? fraction : fraction | unit;
        }

        private static int exponent(int form, long bits) {
            int field = (int) (magnitude(form, bits) >> fractionBits(form));
            return Math.max(field, 1) - 1 + leastExponent(form);
        }

        private static long realToReal(int form, int to, long bits) {
            if (isEndless(form, bits)) {
                return signed(to, bits < 0, endless(to));
            }
            return nearest(to, bits < 0, mantissa(form, bits), exponent(form, bits));
        }

        private static long integerToReal(int to, long number) {
            if (number == Long.MIN_VALUE) {
                // Its magnitude is no long.
                return nearest(to, true, 1, LONG_BITS);
            }
            return nearest(to, number < 0, Math.abs(number), 0);
        }

        private static long realToInteger(int form, int to, long bits) {
            long least = to == WHOLE ? Integer.MIN_VALUE : Long.MIN_VALUE;
            long greatest = to == WHOLE ? Integer.MAX_VALUE : Long.MAX_VALUE;
            long mantissa = mantissa(form, bits);
            int exponent = exponent(form, bits);
            // The endless ones read as a power of two beyond all longs, and go this way too.
            if (bitLength(mantissa) + exponent > LONG_BITS) {
                return bits < 0 ? least : greatest;
            }
            long cut = exponent >= 0 ? mantissa << exponent : mantissa >> Math.min(-exponent, LONG_BITS);
            return Math.max(least, Math.min(greatest, bits < 0 ? -cut : cut));
        }

        /** Neither is endless, and b's exponent is not above a's. */
        private static long realPlus(int form, long a, long b) {
            int apart = exponent(form, a) - exponent(form, b);
            int up = Math.min(apart, ROOM_FOR_SUM);
            long high = mantissa(form, a) << up;
            long low = movedDown(mantissa(form, b), apart - up);
            long sum = (a < 0 ? -high : high) + (b < 0 ? -low : low);
            boolean negative = sum < 0 || sum == 0 && a < 0 && b < 0;
            return nearest(form, negative, Math.abs(sum), exponent(form, a) - up);
        }

        /** The lowest bit stands for all that were lost, so that a later rounding still knows of them. */
        private static long movedDown(long mantissa, int by) {
            if (by <= 0) {
                return mantissa;
            }
            long kept = mantissa >> Math.min(by, LONG_BITS);
            boolean lost = by >= LONG_BITS ? mantissa != 0 : kept << by != mantissa;
            return lost ? kept | 1 : kept;
        }

        /** a is not endless. */
        private static long realRemainder(int form, long a, long b) {
            long divisor = mantissa(form, b);
            if (divisor == 0 || magnitude(form, a) < magnitude(form, b)) {
                return a;
            }
            long left = mantissa(form, a) % divisor;
            int bottom = exponent(form, b);
            for (int steps = exponent(form, a) - bottom; steps > 0; steps -= ROOM_FOR_REMAINDER) {
                left = (left << Math.min(steps, ROOM_FOR_REMAINDER)) % divisor;
            }
            return nearest(form, a < 0, left, bottom);
        }

        /** The bits of the nearest one to mantissa * 2^exponent, of two the one whose last bit is 0. */
        private static long nearest(int form, boolean negative, long mantissa, int exponent) {
            int fraction = fractionBits(form);
            int least = leastExponent(form);
            int last = Math.max(exponent + bitLength(mantissa) - fraction - 1, least);
            long kept = last <= exponent ? mantissa << (exponent - last) : halved(mantissa, last - exponent);
            // The mantissa's top bit adds 1 to the field of the exponent; a carry out of it adds 1 more.
            long magnitude = mantissa == 0 ? 0 : ((long) (last - least) << fraction) + kept;
            return signed(form, negative, Math.min(magnitude, endless(form)));
        }

        /** The mantissa halved so many times (once at least), to the nearest, of two to the even one. */
        private static long halved(long mantissa, int times) {
            if (times > LONG_BITS) {
                return 0;
            }
            long kept = mantissa >> times;
            long lost = mantissa & ((1L << times) - 1);
            long half = 1L << (times - 1);
            boolean up = lost > half || lost == half && (kept & 1) == 1;
            return up ? kept + 1 : kept;
        }

        private static int bitLength(long mantissa) {
            for (int length = LONG_BITS; length > 0; length--) {
                if (mantissa >> (length - 1) != 0) {
                    return length;
                }
            }
            return 0;
        }
    }
}
