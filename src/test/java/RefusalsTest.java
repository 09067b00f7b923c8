import java.util.Arrays;

/** Each call that the document refuses: what it answers, and that later calls show nothing of it. */
public final class RefusalsTest {
    private static final int MISSING = -11;
    private static final int OUTSIDE = -12;
    private static final int CAST = -13;
    private static final int NO_NUMBER = -14;
    private static final int STORE = -15;
    private static final int BAD = -1;
    private static final double INF = Double.POSITIVE_INFINITY;
    private static final int MIN = Integer.MIN_VALUE;
    private static final int MAX = Integer.MAX_VALUE;
    private static final int STEP = 0;
    private static final int WRAP = 1;
    private static final int LONG = 2;
    private static final int[] ODD_PLACES = {-1, 8, MIN, MAX};
    private static final int[] ODD_GAUGE_PLACES = {-1, 6, 7, MIN, MAX};
    private static final int[] ODD_OF_THREE = {-1, 3, MIN, MAX};
    private static final int[] ODD_HOOKS = {-1, 4, MIN, MAX};
    private static final int[] ANY_PLACES = {-1, 0, 1, 2, 3, 4, 5, 6, 7, 8, MIN, MAX};
    private static final int[] ANY_ITEMS = {-1, 0, 1, 3, 4, 11, 12, MIN, MAX};
    private static final boolean[] WIDTHS = {true, false};
    private static final long[] NONE64 = {0x7FF0000000000001L, 0x7FF8000000000000L, Long.MAX_VALUE,
        0xFFF0000000000001L, 0xFFF8000000000000L, -1L};
    private static final long[] NONE32 = {0x7F800001L, 0x7FC00000L, 0x7FFFFFFFL, 0xFF800001L, 0xFFFFFFFFL, -1L,
        0x3FF00000_7FC00000L, 0x80000000_FF800001L};
    private static final long[] UNTOUCHED = Harbour.look(Harbour.made());
    private static final long[] NEW = Harbour.look(new TideGauges());
    private static int refusals = 0;

    private interface Call {
        long on(TideGauges x);
    }

    private RefusalsTest() {
    }

    public static void main(String[] args) {
        rowIsBad();
        shareIsBad();
        clearIsBad();
        placesAreAskedForItems();
        bitsOfNoNumberAreBadAheadOfAll();
        turnIsBadAheadOfAll();
        sumIsBadAheadOfAll();
        sumIsRefused();
        restHasNoNumber();
        gaugeIsBad();
        readIsBadAheadOfAll();
        readIsRefused();
        rackIsBad();
        hangIsBadAheadOfAll();
        hangIsRefused();
        takeIsBadAheadOfAll();
        takeIsRefused();
        countIsBad();
        newObjectsAreLeftAloneToo();
        Due.is("as many refusals as there were", 1, refusals > 2000 ? 1 : 0);
        Due.end();
    }

    private static void refused(String call, int want, Call made) {
        refusals++;
        TideGauges x = Harbour.made();
        Due.is(call, want, made.on(x));
        Due.is(call + " changes nothing; the first note that differs", -1,
            Arrays.mismatch(UNTOUCHED, Harbour.look(x)));
    }

    private static void refusedAnew(String call, int want, Call made) {
        refusals++;
        TideGauges x = new TideGauges();
        Due.is(call + " of a new object", want, made.on(x));
        Due.is(call + " changes nothing of a new object; the first note that differs", -1,
            Arrays.mismatch(NEW, Harbour.look(x)));
    }

    /** 2: a PLACE 0 .. 7, n ITEMS 0 .. 12: else BAD. */
    private static void rowIsBad() {
        for (boolean wide : WIDTHS) {
            for (int place : ODD_PLACES) {
                for (int n : new int[] {-1, 0, 3, 12, 13}) {
                    refused("row(" + place + ", " + wide + ", " + n + ")", BAD, x -> x.row(place, wide, n));
                }
            }
            for (int n : new int[] {-1, 13, MIN, MAX}) {
                for (int place = 0; place < 8; place++) {
                    int p = place;
                    refused("row(" + p + ", " + wide + ", " + n + ")", BAD, x -> x.row(p, wide, n));
                }
            }
        }
    }

    /** 3: BAD, if one of both is no PLACE. */
    private static void shareIsBad() {
        for (int odd : ODD_PLACES) {
            for (int place : ANY_PLACES) {
                refused("share(" + odd + ", " + place + ")", BAD, x -> x.share(odd, place));
                refused("share(" + place + ", " + odd + ")", BAD, x -> x.share(place, odd));
            }
        }
    }

    /** 4: BAD, if it is no PLACE. */
    private static void clearIsBad() {
        for (int place : ODD_PLACES) {
            refused("clear(" + place + ")", BAD, x -> x.clear(place));
        }
    }

    /** Terms: 3 CAST, 1 MISSING, 2 OUTSIDE, in this order; BAD is ahead of all. 5 to 10 ask so. */
    private static void placesAreAskedForItems() {
        for (int place : ANY_PLACES) {
            for (boolean wide : WIDTHS) {
                for (int i : ANY_ITEMS) {
                    int want = Harbour.asked(place, wide, i);
                    if (want != 0) {
                        itemIsRefused("(" + place + ", " + wide + ", " + i + ", ..)", want, place, wide, i);
                    }
                }
            }
        }
    }

    private static void itemIsRefused(String at, int want, int place, boolean wide, int i) {
        refused("put" + at, want, x -> x.put(place, wide, i, 0L));
        refused("get" + at, want, x -> x.get(place, wide, i));
        refused("rest" + at, want, x -> x.rest(place, wide, i, 0));
        refused("rest, j," + at, want, x -> x.rest(place, wide, 0, i));
        refused("turn" + at, want, x -> x.turn(place, wide, i, 6));
        refused("tide" + at, want, x -> x.tide(place, wide, i, 5));
        refused("sum" + at, want, x -> x.sum(place, wide, i, 1));
    }

    /** Terms: BITS of what is no number are BAD anywhere; 5: BAD: BITS, ahead of 3, 1, 2. */
    private static void bitsOfNoNumberAreBadAheadOfAll() {
        for (int place : ANY_PLACES) {
            for (int i : new int[] {0, 1, 12, -1}) {
                for (long bits : NONE64) {
                    refused("put(" + place + ", true, " + i + ", " + bits + ")", BAD,
                        x -> x.put(place, true, i, bits));
                }
                for (long bits : NONE32) {
                    refused("put(" + place + ", false, " + i + ", " + bits + ")", BAD,
                        x -> x.put(place, false, i, bits));
                }
            }
        }
    }

    /** 8: to 0 .. 6, else BAD, ahead of 3, 1, 2. */
    private static void turnIsBadAheadOfAll() {
        for (int to : new int[] {-1, 7, MIN, MAX}) {
            for (int place : ANY_PLACES) {
                for (boolean wide : WIDTHS) {
                    for (int i : new int[] {0, 12}) {
                        refused("turn(" + place + ", " + wide + ", " + i + ", " + to + ")", BAD,
                            x -> x.turn(place, wide, i, to));
                    }
                }
            }
        }
    }

    /** 10: BAD: n is below 0, ahead of 3, 1, 2, 4. */
    private static void sumIsBadAheadOfAll() {
        for (int n : new int[] {-1, MIN}) {
            for (int place : ANY_PLACES) {
                for (boolean wide : WIDTHS) {
                    for (int from : ANY_ITEMS) {
                        refused("sum(" + place + ", " + wide + ", " + from + ", " + n + ")", BAD,
                            x -> x.sum(place, wide, from, n));
                    }
                }
            }
        }
    }

    /** 10: FAILURES 3, 1, 2 (the first ITEM that there is not), 4 (ahead of later ITEMS). */
    private static void sumIsRefused() {
        for (int place : ANY_PLACES) {
            for (boolean wide : WIDTHS) {
                int want = Harbour.askedForRow(place, wide);
                for (int n : new int[] {0, 1, 13, MAX}) {
                    if (want != 0) {
                        refused("sum(" + place + ", " + wide + ", 0, " + n + ")", want,
                            x -> x.sum(place, wide, 0, n));
                    }
                }
            }
        }
        refused("sum of one more than all", OUTSIDE, x -> x.sum(3, true, 0, 13));
        refused("sum of one more than the rest", OUTSIDE, x -> x.sum(3, true, 11, 2));
        refused("sum behind the last", OUTSIDE, x -> x.sum(3, true, 12, 1));
        refused("sum that begins too early", OUTSIDE, x -> x.sum(3, true, -1, 2));
        refused("sum of the most", OUTSIDE, x -> x.sum(3, true, 0, MAX));
        refused("sum far behind", OUTSIDE, x -> x.sum(3, true, MAX, MAX));
        refused("sum far ahead", OUTSIDE, x -> x.sum(3, true, MIN, MAX));
        refused("sum of an empty row", OUTSIDE, x -> x.sum(4, true, 0, 1));
        refused("sum of an empty narrow row", OUTSIDE, x -> x.sum(5, false, 0, 1));
        refused("sum with an endless one that meets none", OUTSIDE, x -> x.sum(0, true, 0, 5));
        sumsMeetUnlikeOnes();
    }

    private static void sumsMeetUnlikeOnes() {
        for (boolean wide : WIDTHS) {
            for (double sign : new double[] {1.0, -1.0}) {
                for (int n : new int[] {3, 4, 5, 13, MAX}) {
                    TideGauges x = endlessOnes(wide, sign);
                    String call = "sum of unlike endless ones, " + n;
                    Due.is(call, NO_NUMBER, x.sum(0, wide, 0, n));
                    Due.is(call + " changes nothing", -1,
                        Arrays.mismatch(Harbour.look(endlessOnes(wide, sign)), Harbour.look(x)));
                }
            }
        }
    }

    private static TideGauges endlessOnes(boolean wide, double sign) {
        TideGauges x = new TideGauges();
        x.row(0, wide, 4);
        double[] items = {sign * INF, 1.0, -sign * INF, sign};
        for (int i = 0; i < 4; i++) {
            x.put(0, wide, i, wide ? Harbour.bits(items[i]) : Harbour.bits((float) items[i]));
        }
        x.get(0, wide, 3);
        return x;
    }

    /** Terms: NO NUMBER: y is 0, or x ENDLESS; 7: FAILURES .. 4. */
    private static void restHasNoNumber() {
        refused("rest by -0.0", NO_NUMBER, x -> x.rest(0, true, 0, 3));
        refused("rest of -0.0 by itself", NO_NUMBER, x -> x.rest(0, true, 3, 3));
        refused("rest of an endless one", NO_NUMBER, x -> x.rest(0, true, 2, 0));
        refused("rest of an endless one by itself", NO_NUMBER, x -> x.rest(0, true, 2, 2));
        refused("rest of an endless one by 0", NO_NUMBER, x -> x.rest(2, true, 2, 3));
        refused("rest by 0.0 of floats", NO_NUMBER, x -> x.rest(1, false, 0, 2));
        refused("rest of 0.0 by itself of floats", NO_NUMBER, x -> x.rest(1, false, 2, 2));
        refused("rest of an endless float", NO_NUMBER, x -> x.rest(1, false, 1, 0));
        refused("rest of an endless float by itself", NO_NUMBER, x -> x.rest(1, false, 1, 1));
        refused("2 of i is ahead of 4", OUTSIDE, x -> x.rest(0, true, 4, 3));
        refused("2 of j is ahead of 4", OUTSIDE, x -> x.rest(0, true, 2, 4));
    }

    /** 12: BAD: PLACE, KIND (0 .. 2), SPAN (neither 0 nor ENDLESS, nor no number). */
    private static void gaugeIsBad() {
        long one = Harbour.bits(1.0);
        for (int kind = -1; kind < 4; kind++) {
            int k = kind;
            for (int place : ODD_GAUGE_PLACES) {
                refused("gauge(" + place + ", " + k + ", ..)", BAD, x -> x.gauge(place, k, one));
            }
        }
        for (int place = 0; place < 6; place++) {
            int p = place;
            for (int kind : ODD_OF_THREE) {
                refused("gauge(" + p + ", " + kind + ", ..)", BAD, x -> x.gauge(p, kind, one));
            }
            for (int kind = 0; kind < 3; kind++) {
                gaugeWithoutSpan(p, kind);
            }
        }
    }

    private static void gaugeWithoutSpan(int place, int kind) {
        for (double span : new double[] {0.0, -0.0, INF, -INF}) {
            refused("gauge(" + place + ", " + kind + ", " + span + ")", BAD,
                x -> x.gauge(place, kind, Harbour.bits(span)));
        }
        for (long span : NONE64) {
            refused("gauge(" + place + ", " + kind + ", " + span + ")", BAD, x -> x.gauge(place, kind, span));
        }
    }

    /** 13: BAD: PLACE, BITS, ahead of 1, 4. */
    private static void readIsBadAheadOfAll() {
        for (boolean single : WIDTHS) {
            for (int place : ODD_GAUGE_PLACES) {
                for (double v : new double[] {1.0, INF}) {
                    refused("read(" + place + ", " + v + ", " + single + ")", BAD,
                        x -> x.read(place, Harbour.bits(v), single));
                }
            }
            for (int place = -1; place < 7; place++) {
                for (long bits : NONE64) {
                    int p = place;
                    refused("read(" + p + ", " + bits + ", " + single + ")", BAD, x -> x.read(p, bits, single));
                }
            }
        }
    }

    /** 13: FAILURES 1 (no GAUGE), 4 (a STEP and a WRAP of what is ENDLESS). */
    private static void readIsRefused() {
        for (boolean single : WIDTHS) {
            for (double v : new double[] {1.0, -0.0, INF, -INF}) {
                refused("read(3, " + v + ")", MISSING, x -> x.read(3, Harbour.bits(v), single));
                refused("read(5, " + v + ")", MISSING, x -> x.read(5, Harbour.bits(v), single));
            }
            for (double v : new double[] {INF, -INF}) {
                refused("step of " + v, NO_NUMBER, x -> x.read(0, Harbour.bits(v), single));
                refused("wrap of " + v, NO_NUMBER, x -> x.read(1, Harbour.bits(v), single));
                refused("wrap of a span below 0 of " + v, NO_NUMBER, x -> x.read(4, Harbour.bits(v), single));
            }
        }
    }

    /** 14: BAD: no RACK 0 .. 2, no KIND 0 .. 2. */
    private static void rackIsBad() {
        for (int odd : ODD_OF_THREE) {
            for (int other = -1; other < 4; other++) {
                int o = other;
                refused("rack(" + odd + ", " + o + ")", BAD, x -> x.rack(odd, o));
                refused("rack(" + o + ", " + odd + ")", BAD, x -> x.rack(o, odd));
            }
        }
    }

    /** 15: BAD: RACK, PLACE, ahead of 1, 2, 5. */
    private static void hangIsBadAheadOfAll() {
        for (int i : new int[] {0, 3, 4, -1}) {
            for (int odd : ODD_OF_THREE) {
                for (int place = -1; place < 7; place++) {
                    int p = place;
                    refused("hang(" + odd + ", " + i + ", " + p + ")", BAD, x -> x.hang(odd, i, p));
                }
            }
            for (int odd : ODD_GAUGE_PLACES) {
                for (int rack = -1; rack < 4; rack++) {
                    int r = rack;
                    refused("hang(" + r + ", " + i + ", " + odd + ")", BAD, x -> x.hang(r, i, odd));
                }
            }
        }
    }

    /** 15: FAILURES 1 (there is no RACK), 2 (0 .. 3), 5. */
    private static void hangIsRefused() {
        for (int place = 0; place < 6; place++) {
            int p = place;
            for (int i = -1; i < 5; i++) {
                int hook = i;
                refused("hang on no rack", MISSING, x -> x.hang(2, hook, p));
            }
            for (int i : ODD_HOOKS) {
                refused("hang on no hook", OUTSIDE, x -> x.hang(0, i, p));
                refused("hang on no hook", OUTSIDE, x -> x.hang(1, i, p));
            }
        }
        for (int i = 0; i < 4; i++) {
            int hook = i;
            refused("hang a long on a rack of steps", STORE, x -> x.hang(0, hook, 2));
            refused("hang a step on a rack of longs", STORE, x -> x.hang(1, hook, 0));
            refused("hang a wrap on a rack of longs", STORE, x -> x.hang(1, hook, 1));
        }
        hangOnRackOfWraps(STEP);
        hangOnRackOfWraps(LONG);
    }

    private static void hangOnRackOfWraps(int place) {
        TideGauges x = Harbour.made();
        TideGauges twin = Harbour.made();
        x.rack(2, WRAP);
        twin.rack(2, WRAP);
        x.hang(2, 1, 1);
        twin.hang(2, 1, 1);
        Due.is("hang " + place + " on a rack of wraps", STORE, x.hang(2, 1, place));
        Due.is("hang " + place + " on a rack of wraps changes nothing", -1,
            Arrays.mismatch(Harbour.look(twin), Harbour.look(x)));
    }

    /** 16: BAD: RACK, KIND, PLACE, ahead of 1, 2, 3. */
    private static void takeIsBadAheadOfAll() {
        for (int i : new int[] {0, 1, 4}) {
            for (int rack = -1; rack < 4; rack++) {
                int r = rack;
                for (int kind : ODD_OF_THREE) {
                    refused("take(" + r + ", " + i + ", " + kind + ", 0)", BAD, x -> x.take(r, i, kind, 0));
                }
                for (int kind = -1; kind < 4; kind++) {
                    int k = kind;
                    for (int place : ODD_GAUGE_PLACES) {
                        refused("take(" + r + ", " + i + ", " + k + ", " + place + ")", BAD,
                            x -> x.take(r, i, k, place));
                    }
                }
            }
            for (int rack : ODD_OF_THREE) {
                refused("take(" + rack + ", " + i + ", 2, 0)", BAD, x -> x.take(rack, i, LONG, 0));
            }
        }
    }

    /** 16: FAILURES 1, 2, 3 (the one on the hook is not of that KIND). */
    private static void takeIsRefused() {
        for (int place = 0; place < 6; place++) {
            int p = place;
            for (int kind = 0; kind < 3; kind++) {
                int k = kind;
                for (int i = -1; i < 5; i++) {
                    int hook = i;
                    refused("take from no rack", MISSING, x -> x.take(2, hook, k, p));
                }
                for (int i : ODD_HOOKS) {
                    refused("take from no hook", OUTSIDE, x -> x.take(0, i, k, p));
                    refused("take from no hook", OUTSIDE, x -> x.take(1, i, k, p));
                }
            }
            refused("take a step as a wrap", CAST, x -> x.take(0, 0, WRAP, p));
            refused("take a step as a long", CAST, x -> x.take(0, 0, LONG, p));
            refused("take a wrap as a long", CAST, x -> x.take(0, 3, LONG, p));
            refused("take a long as a step", CAST, x -> x.take(1, 1, STEP, p));
            refused("take a long as a wrap", CAST, x -> x.take(1, 1, WRAP, p));
        }
    }

    /** 18: BAD: without a ROW, without a GAUGE, of no such what. */
    private static void countIsBad() {
        for (int what : new int[] {-1, 17, 18, MIN, MAX, 3 + 6, 11 + 3, 11 + 5}) {
            refused("count(" + what + ")", BAD, x -> x.count(what));
        }
    }

    private static void newObjectsAreLeftAloneToo() {
        for (boolean wide : WIDTHS) {
            for (int place = 0; place < 8; place++) {
                int p = place;
                refusedAnew("put", MISSING, x -> x.put(p, wide, 0, 1L));
                refusedAnew("get", MISSING, x -> x.get(p, wide, 0));
                refusedAnew("rest", MISSING, x -> x.rest(p, wide, 0, 0));
                refusedAnew("turn", MISSING, x -> x.turn(p, wide, 0, 0));
                refusedAnew("tide", MISSING, x -> x.tide(p, wide, 0, 8));
                refusedAnew("sum", MISSING, x -> x.sum(p, wide, 0, 0));
                refusedAnew("count", BAD, x -> x.count(3 + p));
            }
        }
        for (int place = 0; place < 6; place++) {
            int p = place;
            refusedAnew("read", MISSING, x -> x.read(p, 0L, false));
            refusedAnew("count", BAD, x -> x.count(11 + p));
            for (int rack = 0; rack < 3; rack++) {
                int r = rack;
                refusedAnew("hang", MISSING, x -> x.hang(r, 0, p));
                refusedAnew("take", MISSING, x -> x.take(r, 0, STEP, p));
            }
        }
        refusedAnew("row", BAD, x -> x.row(0, true, 13));
        refusedAnew("share", BAD, x -> x.share(0, 8));
        refusedAnew("gauge", BAD, x -> x.gauge(0, STEP, 0L));
        refusedAnew("rack", BAD, x -> x.rack(0, 3));
    }
}
