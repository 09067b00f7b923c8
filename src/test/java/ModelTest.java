import java.util.Random;

/** Long runs of calls beside a model that leaves all it can to the Java machine and the Java library. */
public final class ModelTest {
    private static final int RUNS = 6000;
    // Two calls each, as told() is asked after every call: an object is promised for 512.
    private static final int STEPS = 256;
    private static final int PAIRS = 200000;
    // Eight calls each, and two that make the rows.
    private static final int PAIRS_OF_AN_OBJECT = 50;
    private static final long SEED = 20261116L;

    private ModelTest() {
    }

    public static void main(String[] args) {
        Random random = new Random(SEED);
        for (int run = 0; run < RUNS && !Due.anyWrong(); run++) {
            Pair pair = new Pair(random, run);
            for (int k = 0; k < STEPS && !Due.anyWrong(); k++) {
                pair.step();
            }
        }
        restsOfManyPairs(random);
        Due.end();
    }

    /** Pairs of numbers of all sizes, more than the runs reach. */
    private static void restsOfManyPairs(Random random) {
        for (int k = 0; k < PAIRS / PAIRS_OF_AN_OBJECT && !Due.anyWrong(); k++) {
            TideGauges x = new TideGauges();
            x.row(0, true, 2);
            x.row(1, false, 2);
            for (int pair = 0; pair < PAIRS_OF_AN_OBJECT; pair++) {
                restOfDoubles(x, Inputs.finite(random), Inputs.finite(random));
                restOfFloats(x, Float.intBitsToFloat((int) Inputs.floatBits(random)),
                    Float.intBitsToFloat((int) Inputs.floatBits(random)));
            }
        }
    }

    private static void restOfDoubles(TideGauges x, double a, double b) {
        if (b == 0.0) {
            return;
        }
        x.put(0, true, 0, Double.doubleToRawLongBits(a));
        x.put(0, true, 1, Double.doubleToRawLongBits(b));
        Due.is("rest of " + a + " by " + b, 1, x.rest(0, true, 0, 1));
        Due.is("rest of " + a + " by " + b, Double.doubleToRawLongBits(a % b), x.told());
    }

    private static void restOfFloats(TideGauges x, float a, float b) {
        if (Float.isNaN(a % b)) {
            return;
        }
        x.put(1, false, 0, Float.floatToRawIntBits(a));
        x.put(1, false, 1, Float.floatToRawIntBits(b));
        Due.is("rest of floats " + a + " by " + b, 1, x.rest(1, false, 0, 1));
        Due.is("rest of floats " + a + " by " + b, Float.floatToRawIntBits(a % b), x.told());
    }

    /** The class and the model, asked the same. */
    private static final class Pair {
        private final TideGauges real = new TideGauges();
        private final Model model = new Model();
        private final Random random;
        private final int run;
        // Some runs keep to few places and to right inputs, so that calls build upon each other.
        private final boolean wild;

        Pair(Random random, int run) {
            this.random = random;
            this.run = run;
            this.wild = run % 4 == 0;
        }

        private int upTo(int bound) {
            if (random.nextInt(wild ? 12 : 60) == 0) {
                int[] odd = {-1, bound, bound + 1, Integer.MIN_VALUE, Integer.MAX_VALUE};
                return odd[random.nextInt(odd.length)];
            }
            return random.nextInt(bound);
        }

        private int rowPlace() {
            return upTo(wild ? 8 : 3);
        }

        private boolean widthOf(int place) {
            if (random.nextInt(10) > 0 && place >= 0 && place < 8 && model.rows[place] != null) {
                return model.rows[place] instanceof double[];
            }
            return random.nextBoolean();
        }

        private int item(int place) {
            int n = place >= 0 && place < 8 ? Math.max(1, model.count(3 + place)) : 1;
            return upTo(n);
        }

        private void due(String call, long want, long got) {
            Due.is("run " + run + ": " + call, want, got);
            Due.is("run " + run + ": told() after " + call, model.told, real.told());
        }

        void step() {
            int which = random.nextInt(40);
            if (which < 26) {
                stepOfRows(which);
            } else {
                stepOfGauges(which);
            }
        }

        private void stepOfRows(int which) {
            int p = rowPlace();
            boolean w = widthOf(p);
            int i = item(p);
            int j = item(p);
            String at = "(" + p + ", " + w + ", " + i + ", ";
            if (which < 3) {
                int n = upTo(13);
                due("row(" + p + ", " + w + ", " + n + ")", model.row(p, w, n), real.row(p, w, n));
            } else if (which == 3) {
                int q = rowPlace();
                due("share(" + p + ", " + q + ")", model.share(p, q), real.share(p, q));
            } else if (which == 4) {
                if (random.nextInt(3) == 0) {
                    due("clear(" + p + ")", model.clear(p), real.clear(p));
                }
            } else if (which < 12) {
                long b = w ? Inputs.doubleBits(random) : Inputs.floatBits(random);
                due("put" + at + b + ")", model.put(p, w, i, b), real.put(p, w, i, b));
            } else if (which < 14) {
                due("get" + at, model.get(p, w, i), real.get(p, w, i));
            } else if (which < 17) {
                due("rest" + at + j + ")", model.rest(p, w, i, j), real.rest(p, w, i, j));
            } else if (which < 20) {
                int to = upTo(7);
                due("turn" + at + to + ")", model.turn(p, w, i, to), real.turn(p, w, i, to));
            } else if (which < 23) {
                int e = random.nextBoolean() ? random.nextInt(400) - 200 : random.nextInt();
                due("tide" + at + e + ")", model.tide(p, w, i, e), real.tide(p, w, i, e));
            } else {
                int n = upTo(14);
                due("sum" + at + n + ")", model.sum(p, w, i, n), real.sum(p, w, i, n));
            }
        }

        private void stepOfGauges(int which) {
            int p = upTo(6);
            int r = upTo(3);
            int kind = upTo(3);
            int i = upTo(4);
            long b = Inputs.doubleBits(random);
            boolean single = random.nextBoolean();
            if (which == 26) {
                long v = Inputs.whole(random);
                int how = upTo(7);
                due("round(" + v + ", " + how + ")", model.round(v, how), real.round(v, how));
            } else if (which < 29) {
                due("gauge(" + p + ", " + kind + ", " + b + ")", model.gauge(p, kind, b), real.gauge(p, kind, b));
            } else if (which < 33) {
                due("read(" + p + ", " + b + ", " + single + ")", model.read(p, b, single), real.read(p, b, single));
            } else if (which == 33) {
                due("rack(" + r + ", " + kind + ")", model.rack(r, kind), real.rack(r, kind));
            } else if (which < 36) {
                due("hang(" + r + ", " + i + ", " + p + ")", model.hang(r, i, p), real.hang(r, i, p));
            } else if (which < 38) {
                due("take(" + r + ", " + i + ", " + kind + ", " + p + ")", model.take(r, i, kind, p),
                    real.take(r, i, kind, p));
            } else {
                int what = upTo(17);
                due("count(" + what + ")", model.count(what), real.count(what));
            }
        }
    }

    /** Numbers that lie where roundings, overflows and rests have their edges. */
    private static final class Inputs {
        private static final double[] ODD = {0.0, -0.0, Double.MIN_VALUE, -Double.MIN_VALUE, Double.MAX_VALUE,
            -Double.MAX_VALUE, Double.MIN_NORMAL, 1.0, -1.0, 0.1, 12.42, -12.42, 0x1p63, -0x1p63, 0x1p31, -0x1p31,
            Double.POSITIVE_INFINITY, Double.NEGATIVE_INFINITY, Double.NaN};

        static double finite(Random random) {
            double v;
            do {
                v = Double.longBitsToDouble(doubleBits(random));
            } while (Double.isNaN(v) || Double.isInfinite(v));
            return v;
        }

        static long doubleBits(Random random) {
            switch (random.nextInt(8)) {
                case 0:
                    return Double.doubleToRawLongBits(ODD[random.nextInt(ODD.length)]);
                case 1:
                    return random.nextLong();
                case 2:
                    return random.nextLong() & 0x800FFFFFFFFFFFFFL;
                case 3:
                    return Double.doubleToRawLongBits((double) whole(random));
                case 4:
                    return Double.doubleToRawLongBits(Float.intBitsToFloat(random.nextInt()))
                        + random.nextInt(3) - 1L;
                case 5:
                    return Double.doubleToRawLongBits(random.nextGaussian() * 1e5);
                default:
                    return Double.doubleToRawLongBits((random.nextInt(4000) - 2000) / 8.0);
            }
        }

        static long floatBits(Random random) {
            long high = random.nextBoolean() ? 0L : (long) random.nextInt() << 32;
            switch (random.nextInt(6)) {
                case 0:
                    return high | bits((float) ODD[random.nextInt(ODD.length)]);
                case 1:
                    return random.nextLong();
                case 2:
                    return high | (random.nextInt() & 0x807FFFFFL);
                case 3:
                    return high | bits((float) whole(random));
                default:
                    return high | bits((random.nextInt(4000) - 2000) / 8.0f);
            }
        }

        private static long bits(float v) {
            return Float.floatToRawIntBits(v) & 0xFFFFFFFFL;
        }

        static long whole(Random random) {
            long v = random.nextLong() >> random.nextInt(64);
            return random.nextInt(3) > 0 ? v : (v & -(1L << random.nextInt(63))) + random.nextInt(3) - 1;
        }
    }

    private static class Step {
        final double span;

        Step(double span) {
            this.span = span;
        }

        double tell(double v) {
            return number(v - v % span);
        }

        float tellFloat(double v) {
            return (float) tell(v);
        }

        int kind() {
            return 0;
        }
    }

    private static final class Wrap extends Step {
        Wrap(double span) {
            super(span);
        }

        @Override
        double tell(double v) {
            double over = v - super.tell(v);
            return over < 0 ? over + Math.abs(span) : over;
        }

        @Override
        int kind() {
            return 1;
        }
    }

    private static final class Whole {
        double tell(double v) {
            return (double) (long) v;
        }

        float tellFloat(double v) {
            return (float) (long) (float) v;
        }
    }

    private static double number(double v) {
        if (Double.isNaN(v)) {
            throw new ArithmeticException();
        }
        return v;
    }

    private static float number(float v) {
        if (Float.isNaN(v)) {
            throw new ArithmeticException();
        }
        return v;
    }

    private static int failure(RuntimeException e) {
        if (e instanceof NullPointerException) {
            return -11;
        }
        if (e instanceof ArrayStoreException) {
            return -15;
        }
        if (e instanceof ArrayIndexOutOfBoundsException) {
            return -12;
        }
        if (e instanceof ClassCastException) {
            return -13;
        }
        if (e instanceof ArithmeticException) {
            return -14;
        }
        throw e;
    }

    /** What the document says, with float[] and double[] as rows, Step[], Wrap[] and Whole[] as racks. */
    private static final class Model {
        final Object[] rows = new Object[8];
        final Object[] gauges = new Object[6];
        final Object[][] racks = new Object[3][];
        long told = 0;

        private static boolean bad(int k, int bound) {
            return k < 0 || k >= bound;
        }

        private int tells(double v) {
            told = Double.doubleToRawLongBits(number(v));
            return 1;
        }

        private int tells(float v) {
            told = Float.floatToRawIntBits(number(v));
            return 1;
        }

        int row(int p, boolean w, int n) {
            if (bad(p, 8) || bad(n, 13)) {
                return -1;
            }
            rows[p] = w ? new double[n] : new float[n];
            return 1;
        }

        int share(int p, int q) {
            if (bad(p, 8) || bad(q, 8)) {
                return -1;
            }
            rows[q] = rows[p];
            return rows[p] == null ? 0 : 1;
        }

        int clear(int p) {
            if (bad(p, 8)) {
                return -1;
            }
            int had = rows[p] == null ? 0 : 1;
            rows[p] = null;
            return had;
        }

        int put(int p, boolean w, int i, long b) {
            boolean none = w ? Double.isNaN(Double.longBitsToDouble(b)) : Float.isNaN(Float.intBitsToFloat((int) b));
            if (bad(p, 8) || none) {
                return -1;
            }
            try {
                if (w) {
                    ((double[]) rows[p])[i] = Double.longBitsToDouble(b);
                } else {
                    ((float[]) rows[p])[i] = Float.intBitsToFloat((int) b);
                }
                return 1;
            } catch (RuntimeException e) {
                return failure(e);
            }
        }

        int get(int p, boolean w, int i) {
            if (bad(p, 8)) {
                return -1;
            }
            try {
                return w ? tells(((double[]) rows[p])[i]) : tells(((float[]) rows[p])[i]);
            } catch (RuntimeException e) {
                return failure(e);
            }
        }

        int rest(int p, boolean w, int i, int j) {
            if (bad(p, 8)) {
                return -1;
            }
            try {
                return w ? tells(((double[]) rows[p])[i] % ((double[]) rows[p])[j])
                    : tells(((float[]) rows[p])[i] % ((float[]) rows[p])[j]);
            } catch (RuntimeException e) {
                return failure(e);
            }
        }

        int turn(int p, boolean w, int i, int to) {
            if (bad(p, 8) || bad(to, 7)) {
                return -1;
            }
            try {
                told = w ? turned(((double[]) rows[p])[i], to) : turned(((float[]) rows[p])[i], to);
                return 1;
            } catch (RuntimeException e) {
                return failure(e);
            }
        }

        private static long turned(double v, int to) {
            return new long[] {(byte) v, (short) v, (char) v, (int) v, (long) v,
                Float.floatToRawIntBits((float) v), Double.doubleToRawLongBits(v)}[to];
        }

        private static long turned(float v, int to) {
            return new long[] {(byte) v, (short) v, (char) v, (int) v, (long) v,
                Float.floatToRawIntBits(v), Double.doubleToRawLongBits((double) v)}[to];
        }

        int tide(int p, boolean w, int i, int e) {
            if (bad(p, 8)) {
                return -1;
            }
            try {
                return w ? tideWide((double[]) rows[p], i, e) : tideNarrow((float[]) rows[p], i, e);
            } catch (RuntimeException x) {
                return failure(x);
            }
        }

        private int tideWide(double[] row, int i, int e) {
            double sum = row[i] + e / 8.0;
            double period = row[0];
            row[i] = period != 0 && !Double.isInfinite(sum) ? sum % period : sum;
            return tells(row[i]);
        }

        private int tideNarrow(float[] row, int i, int e) {
            float sum = row[i] + (float) e / 8.0f;
            float period = row[0];
            row[i] = period != 0 && !Float.isInfinite(sum) ? sum % period : sum;
            return tells(row[i]);
        }

        int sum(int p, boolean w, int from, int n) {
            if (bad(p, 8) || n < 0) {
                return -1;
            }
            try {
                if (w) {
                    double[] row = (double[]) rows[p];
                    double sum = row.length * 0.0;
                    for (int k = 0; k < n; k++) {
                        sum = number(sum + row[from + k]);
                    }
                    return tells(sum);
                }
                float[] row = (float[]) rows[p];
                float sum = row.length * 0.0f;
                for (int k = 0; k < n; k++) {
                    sum = number(sum + row[from + k]);
                }
                return tells(sum);
            } catch (RuntimeException e) {
                return failure(e);
            }
        }

        long round(long v, int how) {
            switch (how) {
                case 0:
                    return Float.floatToRawIntBits(v);
                case 1:
                    return (long) (float) v;
                case 2:
                    return Double.doubleToRawLongBits(v);
                case 3:
                    return (long) (double) v;
                case 4:
                    return Float.floatToRawIntBits((float) (double) v);
                case 5:
                    return (int) (float) v;
                default:
                    return v;
            }
        }

        int gauge(int p, int kind, long b) {
            double span = Double.longBitsToDouble(b);
            if (bad(p, 6) || bad(kind, 3) || Double.isNaN(span) || Double.isInfinite(span) || span == 0) {
                return -1;
            }
            gauges[p] = kind == 0 ? new Step(span) : kind == 1 ? new Wrap(span) : new Whole();
            return 1;
        }

        int read(int p, long b, boolean single) {
            double v = Double.longBitsToDouble(b);
            if (bad(p, 6) || Double.isNaN(v)) {
                return -1;
            }
            try {
                if (gauges[p] instanceof Whole) {
                    Whole whole = (Whole) gauges[p];
                    return single ? tells(whole.tellFloat(v)) : tells(whole.tell(v));
                }
                Step step = (Step) gauges[p];
                return single ? tells(step.tellFloat(v)) : tells(step.tell(v));
            } catch (RuntimeException e) {
                return failure(e);
            }
        }

        int rack(int r, int kind) {
            if (bad(r, 3) || bad(kind, 3)) {
                return -1;
            }
            racks[r] = kind == 0 ? new Step[4] : kind == 1 ? new Wrap[4] : new Whole[4];
            return 1;
        }

        int hang(int r, int i, int p) {
            if (bad(r, 3) || bad(p, 6)) {
                return -1;
            }
            try {
                racks[r][i] = gauges[p];
                return 1;
            } catch (RuntimeException e) {
                return failure(e);
            }
        }

        int take(int r, int i, int kind, int p) {
            if (bad(r, 3) || bad(kind, 3) || bad(p, 6)) {
                return -1;
            }
            try {
                Object what = racks[r][i];
                gauges[p] = kind == 0 ? (Step) what : kind == 1 ? (Wrap) what : (Whole) what;
                return what == null ? 0 : 1;
            } catch (RuntimeException e) {
                return failure(e);
            }
        }

        int count(int what) {
            if (what >= 0 && what < 3) {
                int found = 0;
                for (Object one : what == 0 ? rows : what == 1 ? gauges : racks) {
                    found += one == null ? 0 : 1;
                }
                return found;
            }
            if (what >= 3 && what < 11 && rows[what - 3] != null) {
                return java.lang.reflect.Array.getLength(rows[what - 3]);
            }
            if (what >= 11 && what < 17 && gauges[what - 11] != null) {
                return gauges[what - 11] instanceof Step ? ((Step) gauges[what - 11]).kind() : 2;
            }
            return -1;
        }
    }
}
