import java.util.Arrays;

/** Tides at harbours: rows of heights, gauges that step and wrap, and racks for gauges. */
public final class TideGauges {
    public static final int BAD = -1;

    private static final int FINE = 0;
    private static final int MISSING = -11;
    private static final int OUTSIDE = -12;
    private static final int CAST = -13;
    private static final int NO_NUMBER = -14;
    private static final int STORE = -15;

    private static final int NONE = -1;
    private static final int ROW_PLACES = 8;
    private static final int MOST_ITEMS = 12;
    private static final int GAUGE_PLACES = 6;
    private static final int RACKS = 3;
    private static final int HOOKS = 4;

    private static final int STEP = 0;
    private static final int WRAP = 1;
    private static final int LONG = 2;
    private static final int KINDS = 3;

    private static final int TURNS = 7;
    private static final int COUNT_OF_ITEMS = 3;
    private static final int COUNT_OF_KIND = 11;

    private final Row[] rowOf = new Row[ROW_PLACES];
    // As many rows as places: while one place is given a new row, the others can hold all but one of them.
    private final Row[] stock = new Row[ROW_PLACES];
    private final Gauges gauges = new Gauges(GAUGE_PLACES);
    private final Gauges hooks = new Gauges(RACKS * HOOKS);
    private final int[] rackKinds = new int[RACKS];
    private long latest = 0L;

    public TideGauges() {
        for (int k = 0; k < ROW_PLACES; k++) {
            stock[k] = new Row();
        }
        Arrays.fill(rackKinds, NONE);
    }

    public int row(int place, boolean wide, int n) {
        if (!within(place, ROW_PLACES) || !within(n, MOST_ITEMS + 1)) {
            return BAD;
        }
        Row fresh = unusedRow(place);
        fresh.begin(wide, n);
        rowOf[place] = fresh;
        return 1;
    }

    public int share(int from, int to) {
        if (!within(from, ROW_PLACES) || !within(to, ROW_PLACES)) {
            return BAD;
        }
        rowOf[to] = rowOf[from];
        return rowOf[to] == null ? 0 : 1;
    }

    public int clear(int place) {
        if (!within(place, ROW_PLACES)) {
            return BAD;
        }
        int had = rowOf[place] == null ? 0 : 1;
        rowOf[place] = null;
        return had;
    }

    public int put(int place, boolean wide, int i, long bits) {
        if (Numbers.areOfNone(bits, wide)) {
            return BAD;
        }
        int failure = askItem(place, wide, i);
        if (failure != FINE) {
            return failure;
        }
        rowOf[place].items[i] = Numbers.numberOf(bits, wide);
        return 1;
    }

    public int get(int place, boolean wide, int i) {
        int failure = askItem(place, wide, i);
        if (failure != FINE) {
            return failure;
        }
        return tell(Numbers.bitsOf(rowOf[place].items[i], wide));
    }

    public int rest(int place, boolean wide, int i, int j) {
        int failure = askItem(place, wide, i);
        if (failure == FINE) {
            failure = askItem(place, wide, j);
        }
        if (failure != FINE) {
            return failure;
        }
        double x = rowOf[place].items[i];
        double y = rowOf[place].items[j];
        if (!Numbers.haveRest(x, y)) {
            return NO_NUMBER;
        }
        return tell(Numbers.bitsOf(Numbers.restOf(x, y), wide));
    }

    public int turn(int place, boolean wide, int i, int to) {
        if (!within(to, TURNS)) {
            return BAD;
        }
        int failure = askItem(place, wide, i);
        if (failure != FINE) {
            return failure;
        }
        return tell(Numbers.turned(rowOf[place].items[i], to));
    }

    public int tide(int place, boolean wide, int i, int eighths) {
        int failure = askItem(place, wide, i);
        if (failure != FINE) {
            return failure;
        }
        double[] items = rowOf[place].items;
        double period = items[0];
        double height = Numbers.added(items[i], Numbers.ofEighths(eighths, wide), wide);
        if (Numbers.haveRest(height, period)) {
            height = Numbers.restOf(height, period);
        }
        items[i] = height;
        return tell(Numbers.bitsOf(height, wide));
    }

    public int sum(int place, boolean wide, int from, int n) {
        if (n < 0) {
            return BAD;
        }
        int failure = askRow(place, wide);
        if (failure != FINE) {
            return failure;
        }
        Row row = rowOf[place];
        double total = 0.0;
        // The first item that is missing ends the loop, so from + k can't run over.
        for (int k = 0; k < n; k++) {
            if (!within(from + k, row.size)) {
                return OUTSIDE;
            }
            double item = row.items[from + k];
            if (Numbers.areOppositeEndless(total, item)) {
                return NO_NUMBER;
            }
            total = Numbers.added(total, item, wide);
        }
        return tell(Numbers.bitsOf(total, wide));
    }

    public long round(long v, int how) {
        switch (how) {
            case 0:
                return Numbers.floatBits((float) v);
            case 1:
                return (long) (float) v;
            case 2:
                return Numbers.doubleBits((double) v);
            case 3:
                return (long) (double) v;
            case 4:
                return Numbers.floatBits((float) (double) v);
            case 5:
                return (int) (float) v;
            default:
                return v;
        }
    }

    public int gauge(int place, int kind, long span) {
        if (!within(place, GAUGE_PLACES) || !within(kind, KINDS) || Numbers.areOfNone(span, true)) {
            return BAD;
        }
        double size = Numbers.sizeOf(Numbers.numberOf(span, true));
        if (size == 0.0 || Numbers.isEndless(size)) {
            return BAD;
        }
        gauges.kinds[place] = kind;
        gauges.spans[place] = size;
        return 1;
    }

    public int read(int place, long bits, boolean single) {
        if (!within(place, GAUGE_PLACES) || Numbers.areOfNone(bits, true)) {
            return BAD;
        }
        int kind = gauges.kinds[place];
        if (kind == NONE) {
            return MISSING;
        }
        double v = Numbers.numberOf(bits, true);
        if (kind == LONG) {
            return tell(single ? Numbers.floatBits((float) (long) (float) v) : Numbers.doubleBits((double) (long) v));
        }
        if (!Numbers.haveRest(v, gauges.spans[place])) {
            return NO_NUMBER;
        }
        double reading = kind == WRAP ? gauges.wrapOf(place, v) : gauges.stepOf(place, v);
        return tell(single ? Numbers.floatBits((float) reading) : Numbers.doubleBits(reading));
    }

    public int rack(int rack, int kind) {
        if (!within(rack, RACKS) || !within(kind, KINDS)) {
            return BAD;
        }
        rackKinds[rack] = kind;
        for (int i = 0; i < HOOKS; i++) {
            hooks.kinds[rack * HOOKS + i] = NONE;
        }
        return 1;
    }

    public int hang(int rack, int i, int place) {
        if (!within(place, GAUGE_PLACES)) {
            return BAD;
        }
        int failure = askHook(rack, i);
        if (failure != FINE) {
            return failure;
        }
        if (!isOfKind(gauges.kinds[place], rackKinds[rack])) {
            return STORE;
        }
        hooks.copy(rack * HOOKS + i, gauges, place);
        return 1;
    }

    public int take(int rack, int i, int kind, int place) {
        if (!within(kind, KINDS) || !within(place, GAUGE_PLACES)) {
            return BAD;
        }
        int failure = askHook(rack, i);
        if (failure != FINE) {
            return failure;
        }
        int hook = rack * HOOKS + i;
        if (!isOfKind(hooks.kinds[hook], kind)) {
            return CAST;
        }
        gauges.copy(place, hooks, hook);
        return gauges.kinds[place] == NONE ? 0 : 1;
    }

    public long told() {
        return latest;
    }

    public int count(int what) {
        switch (what) {
            case 0:
                return placesWithRow();
            case 1:
                return kindsIn(gauges.kinds);
            case 2:
                return kindsIn(rackKinds);
            default:
                break;
        }
        if (what >= COUNT_OF_ITEMS && what < COUNT_OF_ITEMS + ROW_PLACES) {
            Row row = rowOf[what - COUNT_OF_ITEMS];
            return row == null ? BAD : row.size;
        }
        if (what >= COUNT_OF_KIND && what < COUNT_OF_KIND + GAUGE_PLACES) {
            int kind = gauges.kinds[what - COUNT_OF_KIND];
            return kind == NONE ? BAD : kind;
        }
        return BAD;
    }

    private static boolean within(int k, int bound) {
        return k >= 0 && k < bound;
    }

    private int tell(long what) {
        latest = what;
        return 1;
    }

    /** FINE, or why the place has no row of that width. */
    private int askRow(int place, boolean wide) {
        if (!within(place, ROW_PLACES)) {
            return BAD;
        }
        Row row = rowOf[place];
        if (row == null) {
            return MISSING;
        }
        return row.wide == wide ? FINE : CAST;
    }

    /** FINE, or why the place has no such item in a row of that width. */
    private int askItem(int place, boolean wide, int i) {
        int failure = askRow(place, wide);
        if (failure != FINE) {
            return failure;
        }
        return within(i, rowOf[place].size) ? FINE : OUTSIDE;
    }

    /** FINE, or why there is no such hook. */
    private int askHook(int rack, int i) {
        if (!within(rack, RACKS)) {
            return BAD;
        }
        if (rackKinds[rack] == NONE) {
            return MISSING;
        }
        return within(i, HOOKS) ? FINE : OUTSIDE;
    }

    /** No gauge is of every kind, and a wrap is a step. */
    private static boolean isOfKind(int kind, int wanted) {
        return kind == NONE || kind == wanted || (kind == WRAP && wanted == STEP);
    }

    /** A row of the stock that no place but this one has. */
    private Row unusedRow(int place) {
        int k = 0;
        while (k < ROW_PLACES - 1 && isUsedBeside(stock[k], place)) {
            k++;
        }
        return stock[k];
    }

    private boolean isUsedBeside(Row row, int place) {
        for (int k = 0; k < ROW_PLACES; k++) {
            if (k != place && rowOf[k] == row) {
                return true;
            }
        }
        return false;
    }

    private int placesWithRow() {
        int found = 0;
        for (Row row : rowOf) {
            if (row != null) {
                found++;
            }
        }
        return found;
    }

    private static int kindsIn(int[] kinds) {
        int found = 0;
        for (int kind : kinds) {
            if (kind != NONE) {
                found++;
            }
        }
        return found;
    }

    /** Items of a narrow row are held as doubles too: every float is one. */
    private static final class Row {
        private final double[] items = new double[MOST_ITEMS];
        private boolean wide = false;
        private int size = 0;

        private void begin(boolean newWide, int newSize) {
            wide = newWide;
            size = newSize;
            Arrays.fill(items, 0.0);
        }
    }

    /** Gauges never change once made, so a gauge that lies in two spots is held as two copies. */
    private static final class Gauges {
        private final int[] kinds;
        // Sizes alone: no gauge tells the sign of its span.
        private final double[] spans;

        private Gauges(int spots) {
            kinds = new int[spots];
            spans = new double[spots];
            Arrays.fill(kinds, NONE);
        }

        private void copy(int spot, Gauges from, int fromSpot) {
            kinds[spot] = from.kinds[fromSpot];
            spans[spot] = from.spans[fromSpot];
        }

        private double stepOf(int spot, double v) {
            return v - Numbers.restOf(v, spans[spot]);
        }

        private double wrapOf(int spot, double v) {
            double over = v - stepOf(spot, v);
            return over < 0.0 ? over + spans[spot] : over;
        }
    }

    /** Numbers and their bits. The library's own functions for that are not at hand here. */
    private static final class Numbers {
        private static final int DOUBLE_FRACTION = 52;
        private static final int DOUBLE_BIAS = 1023;
        private static final int FLOAT_FRACTION = 23;
        private static final int FLOAT_BIAS = 127;
        private static final long DOUBLE_ENDLESS = 0x7FF0000000000000L;
        private static final int FLOAT_ENDLESS = 0x7F800000;
        // A whole part of 53 bits can be moved up by ten and stay a positive long.
        private static final int SAFE_SHIFT = 10;

        private static boolean areOfNone(long bits, boolean wide) {
            return wide
                ? (bits & Long.MAX_VALUE) > DOUBLE_ENDLESS
                : ((int) bits & Integer.MAX_VALUE) > FLOAT_ENDLESS;
        }

        private static double numberOf(long bits, boolean wide) {
            double size = wide
                ? sizeFrom(bits & Long.MAX_VALUE, DOUBLE_FRACTION, DOUBLE_BIAS)
                : sizeFrom(bits & Integer.MAX_VALUE, FLOAT_FRACTION, FLOAT_BIAS);
            boolean negative = wide ? bits < 0L : (int) bits < 0;
            return negative ? -size : size;
        }

        private static double sizeFrom(long bits, int fractionWidth, int bias) {
            if (bits >>> fractionWidth > 2L * bias) {
                return greatest() * 2.0;
            }
            return scaled((double) wholePart(bits, fractionWidth), powerOf(bits, fractionWidth, bias));
        }

        /** The number is its whole part times two to its power. */
        private static long wholePart(long bits, int fractionWidth) {
            long hidden = 1L << fractionWidth;
            long fraction = bits & (hidden - 1L);
            return bits < hidden ? fraction : fraction + hidden;
        }

        private static int powerOf(long bits, int fractionWidth, int bias) {
            return Math.max((int) (bits >>> fractionWidth), 1) - bias - fractionWidth;
        }

        private static long bitsOf(double v, boolean wide) {
            return wide ? doubleBits(v) : floatBits((float) v);
        }

        private static long doubleBits(double v) {
            long size = isEndless(v) ? DOUBLE_ENDLESS : sizeBits(sizeOf(v), DOUBLE_FRACTION, DOUBLE_BIAS);
            return isNegative(v) ? size | Long.MIN_VALUE : size;
        }

        private static int floatBits(float v) {
            int size = isEndless(v) ? FLOAT_ENDLESS : (int) sizeBits(sizeOf(v), FLOAT_FRACTION, FLOAT_BIAS);
            return isNegative(v) ? size | Integer.MIN_VALUE : size;
        }

        /** Every step is by a power of two and loses nothing. */
        private static long sizeBits(double size, int fractionWidth, int bias) {
            boolean small = size < 1.0;
            double left = small ? scaled(size, bias - 1) : size;
            long exponent = small ? 1L : bias;
            for (int step = 512; step > 0; step >>= 1) {
                double power = scaled(1.0, step);
                if (left >= power) {
                    left = left / power;
                    exponent += step;
                }
            }
            // Where there is no hidden bit in it, taking it off turns the exponent of 1 into the 0 that is due.
            long hidden = 1L << fractionWidth;
            return (exponent << fractionWidth) + (long) scaled(left, fractionWidth) - hidden;
        }

        private static double scaled(double v, int power) {
            double product = v;
            double factor = power < 0 ? 0.5 : 2.0;
            for (int left = power < 0 ? -power : power; left > 0; left >>= 1) {
                if ((left & 1) == 1) {
                    product = product * factor;
                }
                factor = factor * factor;
            }
            return product;
        }

        private static double greatest() {
            return 1.7976931348623157E308;
        }

        private static boolean isEndless(double v) {
            return v > greatest() || v < -greatest();
        }

        private static boolean areOppositeEndless(double a, double b) {
            return isEndless(a) && isEndless(b) && a != b;
        }

        /** Of a zero only a division tells the sign; among doubles it throws nothing, and 1.0 by 0.0 is a number. */
        private static boolean isNegative(double v) {
            return v < 0.0 || (v == 0.0 && 1.0 / v < 0.0);
        }

        private static double sizeOf(double v) {
            return isNegative(v) ? -v : v;
        }

        private static double added(double a, double b, boolean wide) {
            return wide ? a + b : (double) ((float) a + (float) b);
        }

        private static double ofEighths(int eighths, boolean wide) {
            return wide ? (double) eighths / 8.0 : (double) ((float) eighths / 8.0f);
        }

        private static boolean haveRest(double x, double y) {
            return y != 0.0 && !isEndless(x);
        }

        /** In whole numbers, so that it is exact; the rest of two floats is a float again. */
        private static double restOf(double x, double y) {
            double a = sizeOf(x);
            double b = sizeOf(y);
            // x has an end, so that this is so too where y has none.
            if (a < b) {
                return x;
            }
            long aBits = sizeBits(a, DOUBLE_FRACTION, DOUBLE_BIAS);
            long bBits = sizeBits(b, DOUBLE_FRACTION, DOUBLE_BIAS);
            int power = powerOf(bBits, DOUBLE_FRACTION, DOUBLE_BIAS);
            // As a is not below b, its power is not either.
            int up = powerOf(aBits, DOUBLE_FRACTION, DOUBLE_BIAS) - power;
            long rest = wholeRest(wholePart(aBits, DOUBLE_FRACTION), up, wholePart(bBits, DOUBLE_FRACTION));
            double size = scaled((double) rest, power);
            return isNegative(x) ? -size : size;
        }

        /** The rest of a, moved up by some bits, by b. */
        private static long wholeRest(long a, int up, long b) {
            // No caller asks for a rest by 0, but a divisor is looked at where it divides.
            if (b <= 0L) {
                return a;
            }
            long rest = a % b;
            for (int left = up; left > 0; left -= SAFE_SHIFT) {
                rest = (rest << Math.min(left, SAFE_SHIFT)) % b;
            }
            return rest;
        }

        private static long turned(double v, int to) {
            switch (to) {
                case 0:
                    return (byte) (int) v;
                case 1:
                    return (short) (int) v;
                case 2:
                    return (char) (int) v;
                case 3:
                    return (int) v;
                case 4:
                    return (long) v;
                case 5:
                    return floatBits((float) v);
                default:
                    return doubleBits(v);
            }
        }
    }
}
