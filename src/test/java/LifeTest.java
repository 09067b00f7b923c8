import java.util.Arrays;

/**
 * "An object is used for at most 512 calls": the last of them answers as the first did; and the calls that only tell
 * leave all else as it was, however often they are made.
 */
public final class LifeTest {
    private static final int CALLS = 512;
    private static final int STEP = 0;
    private static final int WRAP = 1;
    private static final int LONG = 2;
    private static final boolean[] WIDTHS = {true, false};

    private LifeTest() {
    }

    public static void main(String[] args) {
        rowsToTheLastCall();
        sharedRowsToTheLastCall();
        tidesToTheLastCall();
        racksToTheLastCall();
        refusedCallsToTheLastCall();
        eachCallAsTheLast();
        tellingCallsOfRowsChangeNothingElse();
        tellingCallsOfGaugesChangeNothingElse();
        Due.end();
    }

    private static long bits(double v) {
        return Double.doubleToRawLongBits(v);
    }

    private static long bits(float v) {
        return Float.floatToRawIntBits(v);
    }

    /** Every ROW is full and bears a mark of its own, so that one that is not new, or is in two PLACES, would show. */
    private static void rowsToTheLastCall() {
        for (boolean wide : WIDTHS) {
            TideGauges x = new TideGauges();
            for (int k = 0; k < (CALLS - 2) / 6; k++) {
                int place = k % 8;
                Due.is("the earlier ROW, get " + k, k < 8 ? -11 : 1, x.get(place, wide, 11));
                Due.is("the earlier ROW has its mark " + k, k < 8 ? 0L : 100L + k - 8, x.told());
                Due.is("row " + k, 1, x.row(place, wide, 12));
                Due.is("the new ROW, get " + k, 1, x.get(place, wide, 11));
                Due.is("the new ROW has none " + k, 0L, x.told());
                Due.is("the new ROW, put " + k, 1, x.put(place, wide, 11, 100L + k));
            }
            Due.is("a last row", 1, x.row(3, !wide, 2));
            Due.is("call 512", 2, x.count(3 + 3));
        }
    }

    /** The oldest ROW is in two PLACES all the time, and stays what it is beside hundreds of new ones. */
    private static void sharedRowsToTheLastCall() {
        TideGauges x = new TideGauges();
        x.row(0, true, 1);
        x.put(0, true, 0, bits(4.5));
        x.share(0, 7);
        for (int k = 0; k < (CALLS - 5) / 3; k++) {
            int place = 1 + k % 6;
            Due.is("a new ROW", 1, x.row(place, false, 1 + k % 12));
            Due.is("in one PLACE more", 1, x.share(place, 1 + (k + 1) % 6));
            Due.is("and then in one less", 1, x.clear(place));
        }
        Due.is("the oldest ROW", 1, x.get(7, true, 0));
        Due.is("call 512", bits(4.5), x.told());
    }

    private static void tidesToTheLastCall() {
        TideGauges x = new TideGauges();
        x.row(0, true, 2);
        x.row(1, false, 2);
        x.put(0, true, 0, bits(1000.0));
        x.put(1, false, 0, bits(3.0f));
        for (int k = 1; k <= (CALLS - 4) / 4; k++) {
            Due.is("tide " + k, 1, x.tide(0, true, 1, 1));
            Due.is("told of tide " + k, bits(k / 8.0), x.told());
            Due.is("tide of floats " + k, 1, x.tide(1, false, 1, -1));
            long want = k % 24 == 0 ? bits(-0.0f) : bits(-(k % 24) / 8.0f);
            Due.is("told of tide of floats " + k, want, x.told());
        }
    }

    private static void racksToTheLastCall() {
        TideGauges x = new TideGauges();
        int rounds = CALLS / 8;
        for (int k = 1; k <= rounds; k++) {
            int kind = k % 3;
            int hook = k % 4;
            Due.is("gauge " + k, 1, x.gauge(k % 6, kind, bits(0.5 * k)));
            Due.is("rack " + k, 1, x.rack(k % 3, kind));
            Due.is("a bare hook " + k, 0, x.take(k % 3, hook, LONG - kind, (k + 1) % 6));
            Due.is("hang " + k, 1, x.hang(k % 3, hook, k % 6));
            Due.is("take " + k, 1, x.take(k % 3, hook, kind, (k + 1) % 6));
            Due.is("its KIND " + k, kind, x.count(11 + (k + 1) % 6));
            Due.is("read " + k, 1, x.read((k + 1) % 6, bits(1.25 * k), false));
            double[] want = {k, 0.25 * k, Math.floor(1.25 * k)};
            Due.is("told of " + k, bits(want[kind]), x.told());
        }
    }

    private static void refusedCallsToTheLastCall() {
        TideGauges x = new TideGauges();
        for (int k = 0; k < CALLS / 4; k++) {
            Due.is("no ROW", -11, x.get(k % 8, k % 3 == 0, 0));
            Due.is("no GAUGE", -11, x.read(k % 6, 0L, false));
            Due.is("no RACK", -11, x.hang(k % 3, k % 4, k % 6));
            Due.is("no such PLACE", -1, x.row(8 + k, true, 1));
        }
    }

    /** Hundreds of told() go ahead of it, as they change nothing. */
    private static void eachCallAsTheLast() {
        for (int which = 0; which < 17; which++) {
            TideGauges x = new TideGauges();
            x.row(0, true, 3);
            x.put(0, true, 0, bits(2.5));
            x.put(0, true, 1, bits(-7.25));
            x.gauge(0, WRAP, bits(2.0));
            x.rack(0, STEP);
            x.hang(0, 0, 0);
            x.get(0, true, 1);
            for (int k = 7; k < CALLS - 1; k++) {
                Due.is("told", bits(-7.25), x.told());
            }
            Due.is("call 512 of kind " + which, lastDue(which), last(x, which));
        }
    }

    private static long lastDue(int which) {
        if (which == 9) {
            return bits(1.0);
        }
        return which == 15 ? bits(-7.25) : 1L;
    }

    private static long last(TideGauges x, int which) {
        switch (which) {
            case 0: return x.row(7, false, 12);
            case 1: return x.share(0, 7);
            case 2: return x.clear(0);
            case 3: return x.put(0, true, 2, bits(1.0));
            case 4: return x.get(0, true, 2);
            case 5: return x.rest(0, true, 1, 0);
            case 6: return x.turn(0, true, 1, 4);
            case 7: return x.tide(0, true, 1, 4);
            case 8: return x.sum(0, true, 0, 3);
            case 9: return x.round(1L, 2);
            case 10: return x.gauge(5, LONG, bits(1.0));
            case 11: return x.read(0, bits(1.0), true);
            case 12: return x.rack(2, LONG);
            case 13: return x.hang(0, 1, 0);
            case 14: return x.take(0, 0, WRAP, 3);
            case 15: return x.told();
            default: return x.count(0);
        }
    }

    /** All that the two show but what was told at last, which is the first note. */
    private static void showTheSame(String calls, TideGauges x) {
        long[] want = Harbour.look(Harbour.made());
        long[] got = Harbour.look(x);
        Due.is(calls + ": where it shows", -1,
            Arrays.mismatch(want, 1, want.length, got, 1, got.length));
    }

    private static void tellingCallsOfRowsChangeNothingElse() {
        for (int place : new int[] {0, 1, 3, 7}) {
            boolean wide = place == 0 || place == 3;
            int items = new int[] {4, 3, 0, 12, 0, 0, 0, 1}[place];
            TideGauges x = Harbour.made();
            for (int i = 0; i < items; i++) {
                Due.is("get", 1, x.get(place, wide, i));
                Due.is("turn", 1, x.turn(place, wide, i, i % 7));
                Due.is("sum", 1, x.sum(place, wide, i, 1));
            }
            Due.is("rest", 1, x.rest(place, wide, 0, 0));
            showTheSame("calls that tell of PLACE " + place, x);
        }
    }

    private static void tellingCallsOfGaugesChangeNothingElse() {
        TideGauges x = Harbour.made();
        for (int place : new int[] {0, 1, 2, 4}) {
            Due.is("read", 1, x.read(place, bits(-100.5), false));
            Due.is("read, single", 1, x.read(place, bits(100.5), true));
        }
        for (int how = -1; how < 7; how++) {
            x.round(-100L, how);
        }
        for (int what = 0; what < 17; what++) {
            x.count(what);
        }
        showTheSame("read, round and count", x);
    }
}
