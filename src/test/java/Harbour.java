/** An object with something of everything in it, and a look at all that later calls show of an object. */
final class Harbour {
    /** How many items the row of each place has; -1 without one. */
    private static final int[] SIZES = {4, 3, 4, 12, 0, 0, -1, 1};
    private static final boolean[] WIDE = {true, false, true, true, true, false, false, false};
    private static final long LATEST = bits(-7.25);

    private Harbour() {
    }

    static long bits(double v) {
        return Double.doubleToRawLongBits(v);
    }

    static long bits(float v) {
        return Float.floatToRawIntBits(v);
    }

    /** What the document asks of a place for an item in a row of that width: 0, BAD or the failure. */
    static int asked(int place, boolean wide, int i) {
        int failure = askedForRow(place, wide);
        if (failure != 0) {
            return failure;
        }
        return i < 0 || i >= SIZES[place] ? -12 : 0;
    }

    static int askedForRow(int place, boolean wide) {
        if (place < 0 || place > 7) {
            return -1;
        }
        if (SIZES[place] < 0) {
            return -11;
        }
        return WIDE[place] == wide ? 0 : -13;
    }

    /**
     * Places 0 and 2 have one wide row, 1 a narrow one, 3 a full one, 4 and 5 empty ones, 6 none. Gauge places 3 and 5
     * have none. Rack 2 is not there. A number has been told.
     */
    static TideGauges made() {
        TideGauges x = new TideGauges();
        for (int place = 0; place < 8; place++) {
            if (SIZES[place] >= 0) {
                x.row(place, WIDE[place], SIZES[place]);
            }
        }
        double[] wide = {2.5, -7.25, Double.POSITIVE_INFINITY, -0.0};
        for (int i = 0; i < wide.length; i++) {
            x.put(0, true, i, bits(wide[i]));
        }
        float[] narrow = {1.5f, Float.NEGATIVE_INFINITY, 0.0f};
        for (int i = 0; i < narrow.length; i++) {
            x.put(1, false, i, bits(narrow[i]));
        }
        for (int i = 0; i < 12; i++) {
            x.put(3, true, i, bits(i + 0.5));
        }
        x.put(7, false, 0, bits(-3.5f));
        x.share(0, 2);
        x.gauge(0, 0, bits(2.5));
        x.gauge(1, 1, bits(3.0));
        x.gauge(2, 2, bits(1.0));
        x.gauge(4, 1, bits(-1.5));
        x.rack(0, 0);
        x.rack(1, 2);
        x.hang(0, 0, 0);
        x.hang(0, 3, 4);
        x.hang(1, 1, 2);
        x.get(0, true, 1);
        Due.is("harbour: told", LATEST, x.told());
        return x;
    }

    /** Changes the object: use it no more after this look. With made() it stays below 512 calls. */
    static long[] look(TideGauges x) {
        Notes notes = new Notes();
        notes.add(x.told());
        for (int what = -1; what < 18; what++) {
            notes.add(x.count(what));
        }
        items(x, notes, true);
        items(x, notes, false);
        gauges(x, notes);
        hooks(x, notes);
        rackKinds(x, notes);
        sharedRows(x, notes);
        return notes.all();
    }

    private static void items(TideGauges x, Notes notes, boolean wide) {
        for (int place = 0; place < 8; place++) {
            int answer = 1;
            for (int i = 0; i < 13 && answer == 1; i++) {
                answer = x.get(place, wide, i);
                notes.add(answer);
                if (answer == 1) {
                    notes.add(x.told());
                }
            }
        }
    }

    private static void gauges(TideGauges x, Notes notes) {
        for (int place = 0; place < 6; place++) {
            notes.add(x.read(place, bits(-7.7), false));
            notes.add(x.told());
        }
    }

    private static void hooks(TideGauges x, Notes notes) {
        for (int hook = 0; hook < 12; hook++) {
            for (int kind = 0; kind < 3; kind++) {
                int answer = x.take(hook / 4, hook % 4, kind, 5);
                notes.add(answer);
                if (answer == 1) {
                    notes.add(x.read(5, bits(-7.7), true));
                    notes.add(x.told());
                }
            }
        }
    }

    private static void rackKinds(TideGauges x, Notes notes) {
        for (int kind = 0; kind < 3; kind++) {
            notes.add(x.gauge(kind, kind, bits(1.0)));
            for (int rack = 0; rack < 3; rack++) {
                notes.add(x.hang(rack, 2, kind));
            }
        }
    }

    /** Marks the row of each place, one after another; where two places have one row, the later mark shows in both. */
    private static void sharedRows(TideGauges x, Notes notes) {
        for (int place = 0; place < 8; place++) {
            notes.add(x.put(place, true, 0, bits(100.0 + place)));
            notes.add(x.put(place, false, 0, bits(100.0f + place)));
        }
        for (int place = 0; place < 8; place++) {
            notes.add(x.get(place, true, 0));
            notes.add(x.get(place, false, 0));
            notes.add(x.told());
        }
    }

    private static final class Notes {
        private final long[] notes = new long[1000];
        private int size = 0;

        void add(long note) {
            notes[size] = note;
            size++;
        }

        long[] all() {
            return java.util.Arrays.copyOf(notes, size);
        }
    }
}
