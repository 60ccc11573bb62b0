/** Halls to begin a test with. A hall made twice by the same function here is the same in all that it answers. */
final class Halls {
    /** What the METERS 0 .. 3 of a furnished hall have as VALUE, each of the FORM of its number. */
    static final long[] VALUES = {-7, 1L << 40, Check.single(3.5f), Check.real(-1e20)};
    static final long[] LIMITS = {1000, Long.MAX_VALUE, Check.single(Float.MAX_VALUE), Check.real(Double.MAX_VALUE)};
    static final int SINGLES = 0, DOUBLES = 1, SHARED = 2, EMPTY = 3;
    static final int PLACES = 2, RACK_PLACES = 3;

    private Halls() {
    }

    /** METERS 0 .. 3 of the FORMS 0 .. 3. */
    static MeterHall withMeters() {
        MeterHall hall = new MeterHall();
        for (int form = 0; form < 4; form++) {
            hall.meter(form, LIMITS[form]);
            hall.count(form, VALUES[form]);
        }
        return hall;
    }

    /**
     * These METERS; TRACK 0 of SINGLES, 1 of DOUBLES, 2 with the ROW of 0, the others with NOTHING; RACKS 0 .. 4
     * of the FORMS 0 .. 4, with a METER (the last RACK: two) ahead of places of NOTHING.
     */
    static MeterHall furnished() {
        MeterHall hall = withMeters();
        hall.track(SINGLES, 2, PLACES);
        hall.track(DOUBLES, 3, PLACES);
        hall.share(SHARED, SINGLES);
        hall.write(SINGLES, 2, 0, Check.single(Float.NEGATIVE_INFINITY));
        hall.write(SINGLES, 2, 1, Check.single(-2.75f));
        hall.write(DOUBLES, 3, 0, Check.real(Double.MAX_VALUE));
        hall.write(DOUBLES, 3, 1, Check.real(1e300));
        for (int form = 0; form < 4; form++) {
            hall.rack(form, RACK_PLACES);
            hall.hang(form, form, 0, form);
        }
        hall.rack(4, RACK_PLACES);
        hall.hang(4, 4, 0, 0);
        hall.hang(4, 4, 1, 3);
        return hall;
    }

    /** METERS 2 and 3 stand so high that their sum with as much again is ENDLESS. */
    static MeterHall high() {
        MeterHall hall = furnished();
        hall.count(2, Check.single(3e38f));
        hall.count(3, Check.real(1.7e308));
        return hall;
    }

    static MeterHall fullOfMeters() {
        MeterHall hall = new MeterHall();
        for (int k = 0; k < 24; k++) {
            hall.meter(k % 2, 100 + k);
        }
        return hall;
    }

    static MeterHall fullOfRacks() {
        MeterHall hall = withMeters();
        for (int k = 0; k < 12; k++) {
            hall.rack(k % 5, k % 3);
        }
        return hall;
    }

    /** A hall in which so many places were made ever, by ROWS of 20 and a last one with what is left. */
    static MeterHall withPlacesMade(int places) {
        MeterHall hall = new MeterHall();
        int left = places;
        for (int k = 0; left >= 20; k++) {
            hall.track(k % 11, 2 + k % 2, 20);
            left -= 20;
        }
        if (left > 0) {
            hall.track(10, 2, left);
        }
        return hall;
    }

    static MeterHall fullOfPlaces() {
        return withPlacesMade(3000);
    }
}
