/** Each promise of the document by itself: ordinary inputs, the edges it names, and wrong inputs. */
public final class PromisesTest {
    private static final int MISSING = -11;
    private static final int OUTSIDE = -12;
    private static final int CAST = -13;
    private static final int NO_NUMBER = -14;
    private static final int STORE = -15;
    private static final int BAD = -1;
    private static final double INF = Double.POSITIVE_INFINITY;
    private static final long NONE64 = 0x7FF8000000000000L;
    private static final long NONE32 = 0x7FC00000L;
    private static final int STEP = 0;
    private static final int WRAP = 1;
    private static final int LONG = 2;
    private static final int[] WRONG_PLACES = {-1, 8, Integer.MIN_VALUE, Integer.MAX_VALUE};
    private static final int[] WRONG_GAUGE_PLACES = {-1, 6, Integer.MIN_VALUE, Integer.MAX_VALUE};
    private static final int[] WRONG_OF_THREE = {-1, 3, Integer.MIN_VALUE, Integer.MAX_VALUE};

    private PromisesTest() {
    }

    public static void main(String[] args) {
        newObject();
        row();
        rowsOfFullStock();
        share();
        clear();
        put();
        get();
        rest();
        turn();
        tide();
        sum();
        round();
        gauge();
        readStep();
        readWrap();
        readLong();
        rack();
        hang();
        take();
        told();
        count();
        failuresChangeNothing();
        Due.end();
    }

    private static long bits(double v) {
        return Double.doubleToRawLongBits(v);
    }

    private static long bits(float v) {
        return Float.floatToRawIntBits(v);
    }

    /** An object whose place 0 has a wide row of these, and place 1 a narrow row of them as floats. */
    private static TideGauges holding(double... items) {
        TideGauges x = new TideGauges();
        Due.is("row", 1, x.row(0, true, items.length));
        Due.is("row", 1, x.row(1, false, items.length));
        for (int i = 0; i < items.length; i++) {
            Due.is("put", 1, x.put(0, true, i, bits(items[i])));
            Due.is("put", 1, x.put(1, false, i, bits((float) items[i])));
        }
        return x;
    }

    private static TideGauges withGauge(int kind, double span) {
        TideGauges x = new TideGauges();
        Due.is("gauge", 1, x.gauge(0, kind, bits(span)));
        return x;
    }

    private static void tells(String call, TideGauges x, int answer, long want) {
        Due.is(call, 1, answer);
        Due.is(call + " told", want, x.told());
    }

    private static void refuses(String call, TideGauges x, int answer, int want) {
        Due.is(call, want, answer);
        Due.is(call + " told", 0, x.told());
    }

    private static void newObject() {
        TideGauges x = new TideGauges();
        Due.is("1 BAD", -1, TideGauges.BAD);
        Due.is("1 told", 0, x.told());
        for (int what = 0; what < 3; what++) {
            Due.is("1 count " + what, 0, x.count(what));
        }
        for (int place = 0; place < 8; place++) {
            Due.is("1 get", MISSING, x.get(place, true, 0));
            Due.is("1 get narrow", MISSING, x.get(place, false, 0));
        }
        for (int place = 0; place < 6; place++) {
            Due.is("1 read", MISSING, x.read(place, 0L, false));
        }
        for (int rack = 0; rack < 3; rack++) {
            Due.is("1 hang", MISSING, x.hang(rack, 0, 0));
        }
        x.row(0, true, 1);
        Due.is("1 another object", 0, new TideGauges().count(0));
    }

    private static void row() {
        TideGauges x = new TideGauges();
        for (int place : WRONG_PLACES) {
            Due.is("2 place " + place, BAD, x.row(place, true, 1));
        }
        for (int n : new int[] {-1, 13, Integer.MIN_VALUE, Integer.MAX_VALUE}) {
            Due.is("2 n " + n, BAD, x.row(0, false, n));
        }
        Due.is("2 nothing made", 0, x.count(0));
        for (int n = 0; n <= 12; n++) {
            Due.is("2 n " + n, 1, x.row(n % 8, n % 2 == 0, n));
            Due.is("2 size " + n, n, x.count(3 + n % 8));
        }
        x.row(0, true, 12);
        for (int i = 0; i < 12; i++) {
            x.put(0, true, i, bits(i + 1.5));
        }
        Due.is("2 in place of an earlier one", 1, x.row(0, false, 12));
        for (int i = 0; i < 12; i++) {
            tells("2 items at first", x, x.get(0, false, i), 0L);
        }
        Due.is("2 wide no more", CAST, x.get(0, true, 0));
    }

    private static void rowsOfFullStock() {
        TideGauges x = new TideGauges();
        for (int place = 0; place < 8; place++) {
            x.row(place, true, 1);
            x.put(place, true, 0, bits(place + 1.0));
        }
        for (int round = 0; round < 20; round++) {
            int made = round * 3 % 8;
            x.row(made, true, 1);
            x.put(made, true, 0, bits(made + 1.0));
            for (int place = 0; place < 8; place++) {
                tells("2 rows of their own", x, x.get(place, true, 0), bits(place + 1.0));
            }
        }
        x.share(0, 1);
        x.row(0, true, 1);
        tells("2 a shared row stays", x, x.get(1, true, 0), bits(1.0));
        tells("2 the new one is another", x, x.get(0, true, 0), 0L);
    }

    private static void share() {
        TideGauges x = holding(1.5, 2.5);
        for (int place : WRONG_PLACES) {
            Due.is("3 from " + place, BAD, x.share(place, 0));
            Due.is("3 to " + place, BAD, x.share(0, place));
        }
        Due.is("3 shares", 1, x.share(0, 7));
        x.put(7, true, 1, bits(-4.0));
        tells("3 one row in two places", x, x.get(0, true, 1), bits(-4.0));
        Due.is("3 with itself", 1, x.share(0, 0));
        Due.is("3 none with itself", 0, x.share(5, 5));
        Due.is("3 none", 0, x.share(5, 7));
        Due.is("3 to has none now", MISSING, x.get(7, true, 0));
        tells("3 from still has it", x, x.get(0, true, 1), bits(-4.0));
        Due.is("3 a row of the other width", 1, x.share(1, 0));
        Due.is("3 is cast", CAST, x.get(0, true, 0));
    }

    private static void clear() {
        TideGauges x = holding(1.5);
        for (int place : WRONG_PLACES) {
            Due.is("4 place " + place, BAD, x.clear(place));
        }
        x.share(0, 2);
        Due.is("4 had one", 1, x.clear(0));
        Due.is("4 has none", 0, x.clear(0));
        Due.is("4 never had one", 0, x.clear(7));
        Due.is("4 missing", MISSING, x.get(0, true, 0));
        tells("4 the other place keeps it", x, x.get(2, true, 0), bits(1.5));
    }

    private static void put() {
        TideGauges x = holding(1.5);
        for (int place : WRONG_PLACES) {
            Due.is("5 place " + place, BAD, x.put(place, true, 0, 0L));
        }
        long[] none = {NONE64, 0x7FF0000000000001L, 0xFFF0000000000001L, -1L, Long.MAX_VALUE};
        for (long bits : none) {
            Due.is("5 none", BAD, x.put(0, true, 0, bits));
            Due.is("5 none is ahead of 1", BAD, x.put(5, true, 0, bits));
            Due.is("5 none is ahead of 2", BAD, x.put(0, true, 3, bits));
            Due.is("5 none is ahead of 3", BAD, x.put(1, true, 0, bits));
        }
        long[] none32 = {NONE32, 0x7F800001L, 0xFF800001L, -1L, 0x1234567_7FC00000L};
        for (long bits : none32) {
            Due.is("5 none narrow", BAD, x.put(1, false, 0, bits));
            Due.is("5 none narrow is ahead of 1", BAD, x.put(5, false, 0, bits));
            Due.is("5 none narrow is ahead of 3", BAD, x.put(0, false, 0, bits));
        }
        Due.is("5 cast", CAST, x.put(0, false, 0, 0L));
        Due.is("5 cast is ahead of outside", CAST, x.put(1, true, 9, 0L));
        Due.is("5 missing", MISSING, x.put(2, true, 9, 0L));
        for (int i : new int[] {-1, 1, 12, Integer.MIN_VALUE, Integer.MAX_VALUE}) {
            Due.is("5 outside " + i, OUTSIDE, x.put(0, true, i, 0L));
            Due.is("5 outside narrow " + i, OUTSIDE, x.put(1, false, i, 0L));
        }
        tells("5 unchanged", x, x.get(0, true, 0), bits(1.5));
        tells("5 unchanged narrow", x, x.get(1, false, 0), bits(1.5f));
        Due.is("5 lowest bits alone", 1, x.put(1, false, 0, 0x7FF80001_C0200000L));
        tells("5 lowest bits alone", x, x.get(1, false, 0), bits(-2.5f));
    }

    private static void get() {
        TideGauges x = holding(1.5);
        double[] wide = {0.0, -0.0, 1.0, -1.0, Double.MIN_VALUE, -Double.MIN_VALUE, Double.MIN_NORMAL,
            Math.nextDown(Double.MIN_NORMAL), Double.MAX_VALUE, -Double.MAX_VALUE, INF, -INF, Math.PI, 0.1,
            Math.nextDown(1.0), Math.nextUp(1.0), Math.nextDown(2.0), 0x1p1023, 0x1p512, 0x1p511, 0x1p-1000};
        for (double v : wide) {
            x.put(0, true, 0, bits(v));
            tells("6 " + v, x, x.get(0, true, 0), bits(v));
        }
        float[] narrow = {0.0f, -0.0f, 1.0f, -1.0f, Float.MIN_VALUE, -Float.MIN_VALUE, Float.MIN_NORMAL,
            Math.nextDown(Float.MIN_NORMAL), Float.MAX_VALUE, -Float.MAX_VALUE, (float) INF, (float) -INF, 0.1f,
            Math.nextDown(1.0f), Math.nextUp(1.0f), Math.nextDown(2.0f), 0x1p127f, 0x1p64f, 0x1p-130f};
        for (float v : narrow) {
            x.put(1, false, 0, bits(v));
            tells("6 narrow " + v, x, x.get(1, false, 0), bits(v));
        }
        TideGauges y = holding(1.5);
        for (int place : WRONG_PLACES) {
            refuses("6 place " + place, y, y.get(place, true, 0), BAD);
        }
        refuses("6 cast", y, y.get(0, false, 5), CAST);
        refuses("6 missing", y, y.get(4, false, 5), MISSING);
        refuses("6 outside", y, y.get(0, true, 1), OUTSIDE);
        refuses("6 outside", y, y.get(0, true, -1), OUTSIDE);
        y.row(3, true, 0);
        refuses("6 of no items", y, y.get(3, true, 0), OUTSIDE);
    }

    private static void rest() {
        double[] all = {0.0, -0.0, 7.5, -7.5, 2.0, -2.0, 0.1, Double.MIN_VALUE, -Double.MIN_NORMAL,
            Double.MAX_VALUE, INF, -INF};
        for (int i = 0; i < all.length; i++) {
            TideGauges x = holding(all);
            for (int j = 0; j < all.length; j++) {
                restOfTwo(x, all, i, j);
            }
        }
        TideGauges y = holding(1.0, 0.0);
        for (int place : WRONG_PLACES) {
            refuses("7 place " + place, y, y.rest(place, true, 0, 0), BAD);
        }
        refuses("7 cast", y, y.rest(0, false, 5, 5), CAST);
        refuses("7 missing", y, y.rest(4, false, 5, 5), MISSING);
        refuses("7 outside i", y, y.rest(0, true, 2, 1), OUTSIDE);
        refuses("7 outside i", y, y.rest(0, true, -1, 1), OUTSIDE);
        refuses("7 outside j", y, y.rest(0, true, 0, 2), OUTSIDE);
        refuses("7 outside j", y, y.rest(0, true, 0, -1), OUTSIDE);
        refuses("7 no number", y, y.rest(0, true, 0, 1), NO_NUMBER);
        tells("7 items stay", y, y.get(0, true, 0), bits(1.0));
    }

    private static void restOfTwo(TideGauges x, double[] all, int i, int j) {
        String call = "7 " + all[i] + " by " + all[j];
        double rest = all[i] % all[j];
        float restNarrow = (float) all[i] % (float) all[j];
        if (Double.isNaN(rest)) {
            Due.is(call, NO_NUMBER, x.rest(0, true, i, j));
        } else {
            tells(call, x, x.rest(0, true, i, j), bits(rest));
        }
        if (Float.isNaN(restNarrow)) {
            Due.is(call + " narrow", NO_NUMBER, x.rest(1, false, i, j));
        } else {
            tells(call + " narrow", x, x.rest(1, false, i, j), bits(restNarrow));
        }
    }

    private static void turn() {
        double[] all = {0.0, -0.0, 1.9, -1.9, 127.5, 128.0, -129.0, 32768.0, 65535.0, 65536.0, 70000.0,
            2147483647.0, 2147483648.0, -2147483648.0, -2147483649.0, 0x1p63, -0x1p63, -0x1.1p63, 1e300, -1e300,
            INF, -INF, 0x1.000001p0, 0x1.000003p0, 0x1.0000010000001p0, -1e-60, 0x1p-150, 0x1.8p-150, 0x1.fffffep127,
            0x1.ffffffp127, 0x1.fffffefffffffp127, Double.MIN_VALUE};
        for (double v : all) {
            TideGauges x = holding(v);
            long[] wide = {(byte) v, (short) v, (char) v, (int) v, (long) v, bits((float) v), bits(v)};
            float f = (float) v;
            long[] narrow = {(byte) f, (short) f, (char) f, (int) f, (long) f, bits(f), bits((double) f)};
            for (int to = 0; to <= 6; to++) {
                tells("8 " + v + " to " + to, x, x.turn(0, true, 0, to), wide[to]);
                tells("8 narrow " + v + " to " + to, x, x.turn(1, false, 0, to), narrow[to]);
            }
        }
        TideGauges x = holding(300.0);
        tells("8 byte", x, x.turn(0, true, 0, 0), 44);
        tells("8 item stays", x, x.get(0, true, 0), bits(300.0));
        TideGauges y = holding(300.0);
        for (int place : WRONG_PLACES) {
            refuses("8 place " + place, y, y.turn(place, true, 0, 0), BAD);
        }
        for (int to : new int[] {-1, 7, Integer.MIN_VALUE, Integer.MAX_VALUE}) {
            refuses("8 to " + to, y, y.turn(0, true, 0, to), BAD);
            refuses("8 to is ahead of 3", y, y.turn(0, false, 0, to), BAD);
            refuses("8 to is ahead of 1", y, y.turn(5, true, 0, to), BAD);
            refuses("8 to is ahead of 2", y, y.turn(0, true, 5, to), BAD);
        }
        refuses("8 cast", y, y.turn(0, false, 5, 0), CAST);
        refuses("8 missing", y, y.turn(4, false, 5, 0), MISSING);
        refuses("8 outside", y, y.turn(0, true, 1, 6), OUTSIDE);
    }

    private static void tide() {
        TideGauges x = holding(0.0, 1.0, -0.0);
        tells("9 no period", x, x.tide(0, true, 1, 20), bits(3.5));
        tells("9 it is kept", x, x.get(0, true, 1), bits(3.5));
        tells("9 downwards", x, x.tide(1, false, 1, -20), bits(-1.5f));
        tells("9 -0.0 and 0.0", x, x.tide(0, true, 2, 0), bits(0.0));
        x = holding(2.5, 1.0, -2.0);
        tells("9 rest", x, x.tide(0, true, 1, 20), bits(1.0));
        tells("9 rest below 0", x, x.tide(1, false, 2, -20), bits(-2.0f));
        tells("9 -0.0", x, x.tide(0, true, 2, -4), bits(-0.0));
        tells("9 item 0 by itself as it was", x, x.tide(0, true, 0, 4), bits(0.5));
        tells("9 then by the new one", x, x.tide(0, true, 0, 4), bits(0.0));
        tells("9 then by none", x, x.tide(0, true, 0, 4), bits(0.5));
        x = holding(INF, 1.0, -INF);
        tells("9 period endless", x, x.tide(0, true, 1, 8), bits(2.0));
        tells("9 endless", x, x.tide(0, true, 0, -8), bits(INF));
        x = holding(2.0, INF, -INF, -0.0);
        tells("9 endless stays", x, x.tide(0, true, 1, -1), bits(INF));
        tells("9 endless stays", x, x.tide(1, false, 2, 1), bits((float) -INF));
        x = holding(0.0, 0.0);
        tells("9 eighths as a double", x, x.tide(0, true, 1, 16777217), bits(2097152.125));
        tells("9 eighths as a float", x, x.tide(1, false, 1, 16777217), bits(2097152.0f));
        tells("9 eighths as a float", x, x.tide(1, false, 1, 16777219), bits(2097152.0f + 2097152.5f));
        tells("9 least", x, x.tide(0, true, 1, Integer.MIN_VALUE), bits(2097152.125 - 268435456.0));
        x.put(1, false, 1, bits(16777216.0f));
        tells("9 sum to even", x, x.tide(1, false, 1, 8), bits(16777216.0f));
        tells("9 sum kept as rounded", x, x.tide(1, false, 1, 8), bits(16777216.0f));
        tells("9 sum rounded", x, x.tide(1, false, 1, 9), bits(16777218.0f));
        TideGauges y = holding(1.0);
        for (int place : WRONG_PLACES) {
            refuses("9 place " + place, y, y.tide(place, true, 0, 1), BAD);
        }
        refuses("9 cast", y, y.tide(0, false, 5, 1), CAST);
        refuses("9 missing", y, y.tide(4, false, 5, 1), MISSING);
        refuses("9 outside", y, y.tide(0, true, 1, 1), OUTSIDE);
        refuses("9 outside", y, y.tide(0, true, -1, 1), OUTSIDE);
    }

    private static void sum() {
        TideGauges x = holding(0.1, 0.2, 0.3, 1e30, 1.0, -1e30, -0.0);
        tells("10 in order", x, x.sum(0, true, 0, 3), bits(0.1 + 0.2 + 0.3));
        tells("10 in order narrow", x, x.sum(1, false, 0, 3), bits(0.1f + 0.2f + 0.3f));
        tells("10 from one on", x, x.sum(0, true, 1, 2), bits(0.2 + 0.3));
        tells("10 rounds each", x, x.sum(0, true, 3, 3), bits(0.0));
        tells("10 rounds each narrow", x, x.sum(1, false, 3, 3), bits(0.0f));
        tells("10 begins with 0.0", x, x.sum(0, true, 6, 1), bits(0.0));
        tells("10 of none", x, x.sum(0, true, 0, 0), bits(0.0));
        tells("10 to the end", x, x.sum(0, true, 5, 2), bits(-1e30));
        tells("10 of none behind the end", x, x.sum(0, true, 7, 0), bits(0.0));
        x = holding(16777216.0, 1.0, 1.0);
        tells("10 in the width of doubles", x, x.sum(0, true, 0, 3), bits(16777218.0));
        tells("10 in the width of floats", x, x.sum(1, false, 0, 3), bits(16777216.0f));
        x = holding(INF, 1.0, INF, -INF, Double.MAX_VALUE, Double.MAX_VALUE, -INF);
        tells("10 endless", x, x.sum(0, true, 0, 3), bits(INF));
        Due.is("10 meet", NO_NUMBER, x.sum(0, true, 0, 4));
        Due.is("10 meet ahead of outside", NO_NUMBER, x.sum(1, false, 2, 100));
        Due.is("10 outside ahead of nothing", OUTSIDE, x.sum(0, true, 3, 2 + 3));
        tells("10 runs over", x, x.sum(0, true, 4, 2), bits(INF));
        Due.is("10 what ran over meets", NO_NUMBER, x.sum(0, true, 4, 3));
        tells("10 of one sign", x, x.sum(0, true, 6, 1), bits(-INF));
        TideGauges y = holding(1.0, 2.0);
        for (int place : WRONG_PLACES) {
            refuses("10 place " + place, y, y.sum(place, true, 0, 1), BAD);
        }
        refuses("10 n", y, y.sum(0, true, 0, -1), BAD);
        refuses("10 n ahead of 3", y, y.sum(0, false, 0, Integer.MIN_VALUE), BAD);
        refuses("10 n ahead of 1", y, y.sum(5, false, 0, -1), BAD);
        refuses("10 cast", y, y.sum(0, false, 5, 1), CAST);
        refuses("10 cast of none", y, y.sum(0, false, 0, 0), CAST);
        refuses("10 missing", y, y.sum(4, false, 5, 1), MISSING);
        refuses("10 missing of none", y, y.sum(4, false, 0, 0), MISSING);
        refuses("10 outside", y, y.sum(0, true, 0, 3), OUTSIDE);
        refuses("10 outside", y, y.sum(0, true, 2, 1), OUTSIDE);
        refuses("10 outside", y, y.sum(0, true, -1, 1), OUTSIDE);
        refuses("10 outside", y, y.sum(0, true, 0, Integer.MAX_VALUE), OUTSIDE);
        refuses("10 outside", y, y.sum(0, true, Integer.MAX_VALUE, Integer.MAX_VALUE), OUTSIDE);
        refuses("10 outside", y, y.sum(0, true, Integer.MIN_VALUE, Integer.MAX_VALUE), OUTSIDE);
    }

    private static void round() {
        TideGauges x = new TideGauges();
        long[] all = {0, 1, -1, 16777217, -16777217, 16777219, 2147483647, 2147483648L, -2147483649L,
            9007199254740993L, -9007199254740995L, Long.MAX_VALUE, Long.MIN_VALUE, Long.MAX_VALUE - 512,
            0x4000004000000001L, 0x8000008000000001L};
        for (long v : all) {
            Due.is("11 0 " + v, bits((float) v), x.round(v, 0));
            Due.is("11 1 " + v, (long) (float) v, x.round(v, 1));
            Due.is("11 2 " + v, bits((double) v), x.round(v, 2));
            Due.is("11 3 " + v, (long) (double) v, x.round(v, 3));
            Due.is("11 4 " + v, bits((float) (double) v), x.round(v, 4));
            Due.is("11 5 " + v, (int) (float) v, x.round(v, 5));
            for (int how : new int[] {-1, 6, 7, Integer.MIN_VALUE, Integer.MAX_VALUE}) {
                Due.is("11 " + how + " " + v, v, x.round(v, how));
            }
        }
        Due.is("11 rounded once", 0x5E800001, x.round(0x4000004000000001L, 0));
        Due.is("11 rounded twice", 0x5E800000, x.round(0x4000004000000001L, 4));
        Due.is("11 bits as an int", 0xBF800000, x.round(-1, 0));
        Due.is("11 tells nothing", 0, x.told());
    }

    private static void gauge() {
        TideGauges x = new TideGauges();
        for (int place : WRONG_GAUGE_PLACES) {
            Due.is("12 place " + place, BAD, x.gauge(place, STEP, bits(1.0)));
        }
        for (int kind : WRONG_OF_THREE) {
            Due.is("12 kind " + kind, BAD, x.gauge(0, kind, bits(1.0)));
        }
        for (long span : new long[] {bits(0.0), bits(-0.0), bits(INF), bits(-INF), NONE64, -1L}) {
            for (int kind = 0; kind < 3; kind++) {
                Due.is("12 span " + span, BAD, x.gauge(0, kind, span));
            }
        }
        Due.is("12 nothing made", 0, x.count(1));
        for (double span : new double[] {1.0, -1.0, Double.MIN_VALUE, Double.MAX_VALUE}) {
            for (int kind = 0; kind < 3; kind++) {
                for (int place = 0; place < 6; place++) {
                    Due.is("12 made", 1, x.gauge(place, kind, bits(span)));
                    Due.is("12 kind", kind, x.count(11 + place));
                }
            }
        }
        x.gauge(5, STEP, bits(3.0));
        x.gauge(5, STEP, bits(4.0));
        tells("12 in place of an earlier one", x, x.read(5, bits(7.0), false), bits(4.0));
    }

    private static void readStep() {
        for (double span : new double[] {2.5, -2.5}) {
            TideGauges x = withGauge(STEP, span);
            tells("13 step", x, x.read(0, bits(6.0), false), bits(5.0));
            tells("13 step below 0", x, x.read(0, bits(-6.0), false), bits(-5.0));
            tells("13 step of less", x, x.read(0, bits(-1.0), false), bits(0.0));
            tells("13 step of -0.0", x, x.read(0, bits(-0.0), false), bits(0.0));
            tells("13 step single", x, x.read(0, bits(-6.0), true), bits(-5.0f));
        }
        TideGauges x = withGauge(STEP, 0.1);
        tells("13 step rounds", x, x.read(0, bits(123456789.0), false), bits(123456789.0 - 123456789.0 % 0.1));
        tells("13 step single rounds", x, x.read(0, bits(123456789.0), true),
            bits((float) (123456789.0 - 123456789.0 % 0.1)));
        tells("13 step beyond", x, x.read(0, bits(-1e300), true), bits((float) -INF));
        TideGauges y = withGauge(STEP, 2.0);
        for (int place : WRONG_GAUGE_PLACES) {
            refuses("13 place " + place, y, y.read(place, 0L, false), BAD);
        }
        refuses("13 none", y, y.read(0, NONE64, false), BAD);
        refuses("13 none ahead of missing", y, y.read(1, NONE64, true), BAD);
        refuses("13 missing", y, y.read(1, bits(INF), false), MISSING);
        refuses("13 endless", y, y.read(0, bits(INF), false), NO_NUMBER);
        refuses("13 endless", y, y.read(0, bits(-INF), true), NO_NUMBER);
        tells("13 a double's bits, single too", y, y.read(0, 0x40080000_7FC00000L, true), bits(2.0f));
    }

    private static void readWrap() {
        for (double span : new double[] {2.5, -2.5}) {
            TideGauges x = withGauge(WRAP, span);
            tells("13 wrap", x, x.read(0, bits(6.0), false), bits(1.0));
            tells("13 wrap below 0", x, x.read(0, bits(-6.0), false), bits(1.5));
            tells("13 wrap of a multiple", x, x.read(0, bits(-5.0), false), bits(0.0));
            tells("13 wrap of -0.0", x, x.read(0, bits(-0.0), false), bits(-0.0));
            tells("13 wrap of -0.0 single", x, x.read(0, bits(-0.0), true), bits(-0.0f));
            tells("13 wrap single", x, x.read(0, bits(-6.0), true), bits(1.5f));
        }
        TideGauges x = withGauge(WRAP, 0.1);
        double step = 123456789.0 - 123456789.0 % 0.1;
        tells("13 wrap by what a step tells", x, x.read(0, bits(123456789.0), false), bits(123456789.0 - step));
        tells("13 wrap by what a step tells", x, x.read(0, bits(-123456789.0), false),
            bits(-123456789.0 + step < 0 ? -123456789.0 + step + 0.1 : -123456789.0 + step));
        tells("13 wrap of the least", x, x.read(0, bits(-Double.MIN_VALUE), false), bits(0.1));
        TideGauges y = withGauge(WRAP, 2.0);
        refuses("13 wrap endless", y, y.read(0, bits(INF), true), NO_NUMBER);
        refuses("13 wrap endless", y, y.read(0, bits(-INF), false), NO_NUMBER);
    }

    private static void readLong() {
        TideGauges x = withGauge(LONG, 2.5);
        double[] all = {0.0, -0.0, 6.9, -6.9, 16777217.9, 16777219.0, 1e18, 1e30, -1e30, INF, -INF, 0x1p63,
            4611686293305294849.0, 1e300, -0.9};
        for (double v : all) {
            tells("13 long " + v, x, x.read(0, bits(v), false), bits((double) (long) v));
            tells("13 long single " + v, x, x.read(0, bits(v), true), bits((float) (long) (float) v));
        }
        tells("13 long to float first", x, x.read(0, bits(0x1.ffffffffp0), true), bits(2.0f));
        tells("13 long cut", x, x.read(0, bits(0x1.ffffffffp0), false), bits(1.0));
    }

    private static void rack() {
        TideGauges x = withGauge(STEP, 2.0);
        for (int wrong : WRONG_OF_THREE) {
            Due.is("14 rack " + wrong, BAD, x.rack(wrong, STEP));
            Due.is("14 kind " + wrong, BAD, x.rack(0, wrong));
        }
        Due.is("14 nothing made", 0, x.count(2));
        for (int rack = 0; rack < 3; rack++) {
            Due.is("14 made", 1, x.rack(rack, rack));
            Due.is("14 racks", rack + 1, x.count(2));
            for (int i = 0; i < 4; i++) {
                Due.is("14 bare", 0, x.take(rack, i, LONG, 5));
            }
        }
        for (int i = 0; i < 4; i++) {
            x.hang(0, i, 0);
        }
        x.rack(1, STEP);
        x.hang(1, 3, 0);
        Due.is("14 in place of an earlier one", 1, x.rack(0, LONG));
        for (int i = 0; i < 4; i++) {
            Due.is("14 bare again", 0, x.take(0, i, STEP, 5));
        }
        Due.is("14 for another kind", STORE, x.hang(0, 0, 0));
        Due.is("14 the other rack stays", 1, x.take(1, 3, STEP, 5));
        Due.is("14 the other rack anew", 1, x.rack(1, STEP));
        Due.is("14 the other rack is bare", 0, x.take(1, 3, STEP, 5));
        Due.is("14 racks", 3, x.count(2));
    }

    private static void hang() {
        TideGauges x = new TideGauges();
        for (int kind = 0; kind < 3; kind++) {
            x.gauge(kind, kind, bits(2.0));
        }
        for (int wrong : WRONG_OF_THREE) {
            Due.is("15 rack " + wrong, BAD, x.hang(wrong, 0, 0));
        }
        for (int place : WRONG_GAUGE_PLACES) {
            Due.is("15 place " + place, BAD, x.hang(0, 9, place));
        }
        Due.is("15 missing", MISSING, x.hang(0, 9, 0));
        boolean[][] holds = {{true, true, false}, {false, true, false}, {false, false, true}};
        for (int rack = 0; rack < 3; rack++) {
            x.rack(rack, rack);
            for (int kind = 0; kind < 3; kind++) {
                Due.is("15 rack of " + rack + " for " + kind, holds[rack][kind] ? 1 : STORE, x.hang(rack, kind, kind));
                Due.is("15 outside", OUTSIDE, x.hang(rack, 4, kind));
                Due.is("15 outside", OUTSIDE, x.hang(rack, -1, kind));
                Due.is("15 on the hook", holds[rack][kind] ? 1 : 0, x.take(rack, kind, kind, 5));
            }
        }
        x.hang(0, 0, 0);
        Due.is("15 refused", STORE, x.hang(0, 0, 2));
        Due.is("15 the hook keeps its own", 1, x.take(0, 0, STEP, 5));
        Due.is("15 outside of none", OUTSIDE, x.hang(0, 4, 4));
        Due.is("15 none", 1, x.hang(0, 0, 4));
        Due.is("15 the hook is bare", 0, x.take(0, 0, STEP, 5));
        Due.is("15 the place keeps it", STEP, x.count(11));
        x.hang(0, 3, 0);
        x.gauge(0, LONG, bits(1.0));
        Due.is("15 the hook has the one that was", 1, x.take(0, 3, STEP, 5));
        tells("15 with its span", x, x.read(5, bits(7.0), false), bits(6.0));
    }

    private static void take() {
        TideGauges x = new TideGauges();
        for (int kind = 0; kind < 3; kind++) {
            x.gauge(kind, kind, bits(kind + 2.0));
        }
        for (int wrong : WRONG_OF_THREE) {
            Due.is("16 rack " + wrong, BAD, x.take(wrong, 0, STEP, 3));
            Due.is("16 kind " + wrong, BAD, x.take(0, 9, wrong, 3));
        }
        for (int place : WRONG_GAUGE_PLACES) {
            Due.is("16 place " + place, BAD, x.take(0, 9, STEP, place));
        }
        Due.is("16 missing", MISSING, x.take(0, 9, STEP, 3));
        x.rack(0, STEP);
        x.rack(1, LONG);
        x.hang(0, 0, 0);
        x.hang(0, 1, 1);
        x.hang(1, 3, 2);
        for (int i : new int[] {-1, 4, Integer.MIN_VALUE, Integer.MAX_VALUE}) {
            Due.is("16 outside " + i, OUTSIDE, x.take(0, i, LONG, 3));
        }
        Due.is("16 step as step", 1, x.take(0, 0, STEP, 3));
        Due.is("16 it is there", STEP, x.count(14));
        tells("16 with its span", x, x.read(3, bits(7.0), false), bits(6.0));
        Due.is("16 step as wrap", CAST, x.take(0, 0, WRAP, 4));
        Due.is("16 step as long", CAST, x.take(0, 0, LONG, 4));
        Due.is("16 nothing there", BAD, x.count(15));
        Due.is("16 wrap as step", 1, x.take(0, 1, STEP, 4));
        Due.is("16 is a wrap", WRAP, x.count(15));
        tells("16 and wraps", x, x.read(4, bits(-1.0), false), bits(2.0));
        Due.is("16 wrap as wrap", 1, x.take(0, 1, WRAP, 4));
        Due.is("16 wrap as long", CAST, x.take(0, 1, LONG, 4));
        Due.is("16 long as long", 1, x.take(1, 3, LONG, 5));
        Due.is("16 long as step", CAST, x.take(1, 3, STEP, 5));
        Due.is("16 long as wrap", CAST, x.take(1, 3, WRAP, 5));
        Due.is("16 the hook keeps it", 1, x.take(1, 3, LONG, 5));
        for (int kind = 0; kind < 3; kind++) {
            x.gauge(5, LONG, bits(1.0));
            Due.is("16 none is of all", 0, x.take(0, 2, kind, 5));
            Due.is("16 the place has none", BAD, x.count(16));
        }
    }

    private static void told() {
        TideGauges x = holding(-1.5, 0.0);
        Due.is("17 at first", 0, x.told());
        tells("17 bits", x, x.get(0, true, 0), bits(-1.5));
        Due.is("17 again", bits(-1.5), x.told());
        tells("17 as an int", x, x.get(1, false, 0), 0xBFC00000);
        tells("17 whole number", x, x.turn(0, true, 0, 2), 65535);
        x.put(0, true, 0, 0L);
        x.row(2, true, 3);
        x.share(0, 3);
        x.clear(0);
        x.round(77L, 0);
        x.gauge(0, LONG, bits(1.0));
        x.rack(0, LONG);
        x.hang(0, 0, 0);
        x.take(0, 0, LONG, 1);
        x.count(0);
        Due.is("17 the others tell nothing", 65535, x.told());
        tells("17 read", x, x.read(0, bits(-3.5), false), bits(-3.0));
    }

    private static void count() {
        TideGauges x = new TideGauges();
        for (int what : new int[] {-1, 17, 18, Integer.MIN_VALUE, Integer.MAX_VALUE}) {
            Due.is("18 what " + what, BAD, x.count(what));
        }
        for (int what = 3; what < 17; what++) {
            Due.is("18 without one " + what, BAD, x.count(what));
        }
        for (int place = 0; place < 8; place++) {
            x.row(place, place % 2 == 0, place + 4);
            Due.is("18 rows", place + 1, x.count(0));
            Due.is("18 items", place + 4, x.count(3 + place));
        }
        x.row(7, true, 0);
        Due.is("18 no items", 0, x.count(10));
        x.clear(3);
        Due.is("18 rows", 7, x.count(0));
        x.share(0, 3);
        Due.is("18 a shared one in each place", 8, x.count(0));
        Due.is("18 items of a shared one", 4, x.count(6));
        for (int place = 0; place < 6; place++) {
            x.gauge(place, place % 3, bits(1.0));
            Due.is("18 gauges", place + 1, x.count(1));
            Due.is("18 kind", place % 3, x.count(11 + place));
        }
        x.rack(2, WRAP);
        Due.is("18 racks", 1, x.count(2));
        x.rack(2, STEP);
        Due.is("18 racks", 1, x.count(2));
        x.take(2, 0, STEP, 5);
        Due.is("18 gauges", 5, x.count(1));
    }

    private static void failuresChangeNothing() {
        TideGauges x = holding(2.0, INF, -INF, 0.0);
        x.gauge(0, WRAP, bits(3.0));
        x.rack(0, WRAP);
        x.hang(0, 0, 0);
        tells("a number", x, x.get(0, true, 0), bits(2.0));
        x.rest(0, true, 1, 0);
        x.rest(0, true, 0, 3);
        x.sum(0, true, 1, 2);
        x.sum(0, true, 0, 9);
        x.tide(0, true, 4, 1);
        x.turn(0, true, 4, 1);
        x.turn(0, true, 0, 9);
        x.put(0, false, 0, 0L);
        x.row(0, true, 13);
        x.share(0, 8);
        x.gauge(0, STEP, 0L);
        x.read(0, bits(INF), false);
        x.rack(0, 3);
        x.take(0, 0, LONG, 0);
        x.take(0, 4, WRAP, 0);
        Due.is("told stays", bits(2.0), x.told());
        Due.is("rows stay", 2, x.count(0));
        Due.is("items stay", 4, x.count(3));
        Due.is("gauge stays", WRAP, x.count(11));
        Due.is("hook stays", 1, x.take(0, 0, WRAP, 1));
        double[] items = {2.0, INF, -INF, 0.0};
        for (int i = 0; i < items.length; i++) {
            tells("item stays", x, x.get(0, true, i), bits(items[i]));
        }
    }
}
