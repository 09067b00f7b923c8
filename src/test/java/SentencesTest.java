/**
 * The document sentence by sentence, where it names an edge: a test for each sentence, with numbers written out by
 * hand. What refused calls answer, and that they change nothing, is in RefusalsTest.
 */
public final class SentencesTest {
    private static final int MISSING = -11;
    private static final int OUTSIDE = -12;
    private static final int CAST = -13;
    private static final int NO_NUMBER = -14;
    private static final int STORE = -15;
    private static final int BAD = -1;
    private static final double INF = Double.POSITIVE_INFINITY;
    private static final float INF32 = Float.POSITIVE_INFINITY;
    private static final double LEAST = Double.MIN_VALUE;
    private static final double MOST = Double.MAX_VALUE;
    private static final float LEAST32 = Float.MIN_VALUE;
    private static final float MOST32 = Float.MAX_VALUE;
    private static final int STEP = 0;
    private static final int WRAP = 1;
    private static final int LONG = 2;
    private static final boolean[] WIDTHS = {true, false};

    private SentencesTest() {
    }

    public static void main(String[] args) {
        placesOfRows();
        items();
        bits();
        failures();
        rests();
        turnedIntoWholeNumbers();
        turnedIntoFloatsAndDoubles();
        gauges();
        steps();
        wraps();
        longs();
        racks();
        promises1To5();
        promises6To8();
        promise9();
        promise10();
        promise11();
        promises12To13();
        promises14To16();
        promises17To18();
        Due.end();
    }

    private static void placesOfRows() {
        placesAreZeroToSeven();
        placesHaveNoneAtFirst();
        oneRowMayLieInAllPlaces();
        eightRowsMayLieInEightPlaces();
    }

    private static void items() {
        rowsHaveZeroToTwelveItems();
        rowsOfNoItems();
        itemsAreZeroAtFirst();
        rowsAreWideOrNot();
    }

    private static void bits() {
        doublesAreTheir64Bits();
        floatsAreTheLowest32Bits();
        doublesOfEveryPower();
        floatsOfEveryPower();
        bitsBesideThoseOfNoNumber();
        noNumberEverIsNone();
    }

    private static void failures() {
        castIsAheadOfOutside();
        missingIsAheadOfOutside();
        failuresAreMinusTenLessThem();
    }

    private static void rests() {
        restsGoTowardsZero();
        restsAreExact();
        restsHaveTheSignOfX();
        restsByEndlessOnes();
        restsOfLessThanY();
        restsHaveNoNumber();
    }

    private static void gauges() {
        placesOfGaugesAreZeroToFive();
        placesOfGaugesAreOfTheirOwn();
        spansOfAllSizes();
    }

    private static void racks() {
        racksAreZeroToTwo();
        racksHaveFourHooks();
        racksHoldWhatFits();
    }

    private static void promises1To5() {
        newObjectsHaveNothing();
        objectsAreApart();
        newRowsReplaceEarlierOnes();
        sharingGivesWhatIsThere();
        sharingGivesNone();
        sharingWithItself();
        clearingTellsWhetherThereWasOne();
        puttingIsSeen();
    }

    private static void promises6To8() {
        gettingTells();
        restsAreToldAndKeptNowhere();
        turnsAreToldAndKeptNowhere();
    }

    private static void promise9() {
        tidesAddEighths();
        tidesAddEighthsOfTheWidth();
        tidesRoundTheSumToTheWidth();
        tidesGoAroundItemZero();
        tidesOfItemZeroGoAroundItAsItWas();
        tidesWithoutPeriod();
        tidesOfEndlessSums();
        tidesAroundAnEndlessPeriod();
        tidesAreKeptAndTold();
    }

    private static void promise10() {
        sumsOfNoItems();
        sumsGoInOrder();
        sumsBeginWithZero();
        sumsAreOfTheWidth();
        sumsReachBothEnds();
        sumsMeetItemsThatAreNot();
        sumsMeetEndlessOnes();
        sumsThatRunOver();
    }

    private static void promise11() {
        roundedToFloats();
        roundedToDoubles();
        roundedTwice();
        roundedToInts();
        roundedByAnotherHow();
    }

    private static void promises12To13() {
        gaugesReplaceEarlierOnes();
        readingsAreToldAsDoublesOrFloats();
    }

    private static void promises14To16() {
        racksReplaceEarlierOnes();
        hangingLeavesTheGauge();
        hangingNoneBaresTheHook();
        hungGaugesStayAsTheyWere();
        takingLeavesTheHook();
        takingNoneEmptiesThePlace();
        takingIsOfAKind();
    }

    private static void promises17To18() {
        toldIsZeroAtFirst();
        toldIsTheLatest();
        callsThatTellNothing();
        countsOfPlaces();
        countsOfItems();
        countsOfKinds();
    }

    // ---- helpers

    private static long bits(double v) {
        return Double.doubleToRawLongBits(v);
    }

    private static long bits(float v) {
        return Float.floatToRawIntBits(v);
    }

    private static TideGauges wide(double... items) {
        TideGauges x = new TideGauges();
        Due.is("a wide row", 1, x.row(0, true, items.length));
        for (int i = 0; i < items.length; i++) {
            Due.is("put " + items[i], 1, x.put(0, true, i, bits(items[i])));
        }
        return x;
    }

    private static TideGauges narrow(float... items) {
        TideGauges x = new TideGauges();
        Due.is("a narrow row", 1, x.row(0, false, items.length));
        for (int i = 0; i < items.length; i++) {
            Due.is("put " + items[i], 1, x.put(0, false, i, bits(items[i])));
        }
        return x;
    }

    private static TideGauges gauge(int kind, double span) {
        TideGauges x = new TideGauges();
        Due.is("a gauge of " + kind + " by " + span, 1, x.gauge(0, kind, bits(span)));
        return x;
    }

    private static void tells(String call, TideGauges x, int answer, long want) {
        Due.is(call, 1, answer);
        Due.is(call + " told", want, x.told());
    }

    private static void has(String call, TideGauges x, int i, double want) {
        tells(call, x, x.get(0, true, i), bits(want));
    }

    private static void has(String call, TideGauges x, int i, float want) {
        tells(call, x, x.get(0, false, i), bits(want));
    }

    private static void rest(double v, double by, double want) {
        TideGauges x = wide(v, by);
        tells("REST of " + v + " by " + by, x, x.rest(0, true, 0, 1), bits(want));
    }

    private static void rest(float v, float by, float want) {
        TideGauges x = narrow(v, by);
        tells("REST of floats " + v + " by " + by, x, x.rest(0, false, 0, 1), bits(want));
    }

    private static void turn(double v, int to, long want) {
        TideGauges x = wide(v);
        tells(v + " TURNED into " + to, x, x.turn(0, true, 0, to), want);
    }

    private static void turn(float v, int to, long want) {
        TideGauges x = narrow(v);
        tells(v + " (float) TURNED into " + to, x, x.turn(0, false, 0, to), want);
    }

    private static void reads(int kind, double span, double v, double want) {
        TideGauges x = gauge(kind, span);
        tells("KIND " + kind + " by " + span + " of " + v, x, x.read(0, bits(v), false), bits(want));
    }

    private static void readsSingle(int kind, double span, double v, float want) {
        TideGauges x = gauge(kind, span);
        tells("KIND " + kind + " by " + span + " of " + v + " as a float", x, x.read(0, bits(v), true), bits(want));
    }

    // ---- "PLACES 0 .. 7 have a ROW or none (at first; a ROW may lie in several)"

    private static void placesAreZeroToSeven() {
        for (boolean wide : WIDTHS) {
            for (int place : new int[] {0, 7}) {
                TideGauges x = new TideGauges();
                Due.is("row of PLACE " + place, 1, x.row(place, wide, 1));
                Due.is("put of PLACE " + place, 1, x.put(place, wide, 0, 1L));
                tells("get of PLACE " + place, x, x.get(place, wide, 0), 1L);
                tells("rest of PLACE " + place, x, x.rest(place, wide, 0, 0), 0L);
                tells("turn of PLACE " + place, x, x.turn(place, wide, 0, 3), 0L);
                tells("sum of PLACE " + place, x, x.sum(place, wide, 0, 1), 1L);
                tells("tide of PLACE " + place, x, x.tide(place, wide, 0, 0), 0L);
                Due.is("share from PLACE " + place, 1, x.share(place, 3));
                Due.is("share to PLACE " + place, 1, x.share(3, place));
                Due.is("clear of PLACE " + place, 1, x.clear(place));
                Due.is("one PLACE is left", 1, x.count(0));
            }
        }
    }

    private static void placesHaveNoneAtFirst() {
        TideGauges x = new TideGauges();
        for (int place = 0; place < 8; place++) {
            Due.is("none at first", MISSING, x.get(place, true, 0));
            Due.is("none at first, narrow", MISSING, x.get(place, false, 0));
            Due.is("none at first, cleared", 0, x.clear(place));
            Due.is("none at first, counted", BAD, x.count(3 + place));
        }
    }

    private static void oneRowMayLieInAllPlaces() {
        for (boolean wide : WIDTHS) {
            TideGauges x = new TideGauges();
            x.row(0, wide, 12);
            for (int place = 1; place < 8; place++) {
                Due.is("share", 1, x.share(place - 1, place));
            }
            Due.is("all PLACES have it", 8, x.count(0));
            for (int place = 0; place < 8; place++) {
                x.put(place, wide, 11, place + 1L);
                for (int other = 0; other < 8; other++) {
                    tells("what is put in one is in all", x, x.get(other, wide, 11), place + 1L);
                }
            }
            Due.is("a new one in one of them", 1, x.row(3, !wide, 1));
            Due.is("clear of one of them", 1, x.clear(0));
            for (int other : new int[] {1, 2, 4, 5, 6, 7}) {
                tells("the others keep it", x, x.get(other, wide, 11), 8L);
            }
            Due.is("the new one is another", CAST, x.get(3, wide, 11));
        }
    }

    private static void eightRowsMayLieInEightPlaces() {
        for (boolean wide : WIDTHS) {
            TideGauges x = new TideGauges();
            for (int turn = 0; turn < 3; turn++) {
                for (int place = 0; place < 8; place++) {
                    x.row(place, wide, 1);
                    x.put(place, wide, 0, 100L * turn + place);
                }
                for (int place = 0; place < 8; place++) {
                    tells("a ROW of its own", x, x.get(place, wide, 0), 100L * turn + place);
                }
            }
            Due.is("all PLACES have one", 8, x.count(0));
        }
    }

    // ---- "A ROW is WIDE (doubles) or not (floats), and has 0 .. 12 ITEMS, at first 0.0"

    private static void rowsHaveZeroToTwelveItems() {
        for (boolean wide : WIDTHS) {
            for (int n = 0; n <= 12; n++) {
                TideGauges x = new TideGauges();
                Due.is("row of " + n, 1, x.row(5, wide, n));
                Due.is("ITEMS of " + n, n, x.count(8));
                for (int i = 0; i < n; i++) {
                    Due.is("put of " + i + " of " + n, 1, x.put(5, wide, i, i + 1L));
                }
                for (int i = 0; i < n; i++) {
                    tells("get of " + i + " of " + n, x, x.get(5, wide, i), i + 1L);
                }
                Due.is("put behind the last of " + n, OUTSIDE, x.put(5, wide, n, 0L));
                Due.is("get behind the last of " + n, OUTSIDE, x.get(5, wide, n));
                Due.is("get ahead of the first of " + n, OUTSIDE, x.get(5, wide, -1));
            }
        }
    }

    private static void rowsOfNoItems() {
        for (boolean wide : WIDTHS) {
            TideGauges x = new TideGauges();
            Due.is("row of 0", 1, x.row(0, wide, 0));
            Due.is("it is a ROW", 1, x.count(0));
            Due.is("of 0 ITEMS", 0, x.count(3));
            Due.is("put", OUTSIDE, x.put(0, wide, 0, 0L));
            Due.is("get", OUTSIDE, x.get(0, wide, 0));
            Due.is("rest", OUTSIDE, x.rest(0, wide, 0, 0));
            Due.is("turn", OUTSIDE, x.turn(0, wide, 0, 0));
            Due.is("tide", OUTSIDE, x.tide(0, wide, 0, 0));
            Due.is("sum of 1", OUTSIDE, x.sum(0, wide, 0, 1));
            tells("sum of 0", x, x.sum(0, wide, 0, 0), 0L);
            Due.is("of the other width", CAST, x.get(0, !wide, 0));
            Due.is("share", 1, x.share(0, 1));
            Due.is("clear", 1, x.clear(0));
        }
    }

    private static void itemsAreZeroAtFirst() {
        for (boolean wide : WIDTHS) {
            TideGauges x = new TideGauges();
            for (int turn = 0; turn < 2; turn++) {
                x.row(turn, wide, 12);
                for (int i = 0; i < 12; i++) {
                    tells("ITEM " + i + " at first", x, x.get(turn, wide, i), 0L);
                    x.put(turn, wide, i, i + 77L);
                }
            }
            x.clear(0);
            x.clear(1);
            x.row(0, !wide, 12);
            for (int i = 0; i < 12; i++) {
                tells("ITEM " + i + " of the other width at first", x, x.get(0, !wide, i), 0L);
            }
        }
    }

    private static void rowsAreWideOrNot() {
        TideGauges x = wide(0.1);
        has("a double is kept whole", x, 0, 0.1);
        tells("and turns into a float", x, x.turn(0, true, 0, 5), bits(0.1f));
        TideGauges y = narrow(0.1f);
        has("a float is kept", y, 0, 0.1f);
        tells("and is wider than 0.1", y, y.turn(0, false, 0, 6), bits(0.10000000149011612));
        for (boolean wide : WIDTHS) {
            TideGauges z = new TideGauges();
            z.row(0, wide, 3);
            Due.is("put of the other width", CAST, z.put(0, !wide, 0, 0L));
            Due.is("get of the other width", CAST, z.get(0, !wide, 0));
            Due.is("rest of the other width", CAST, z.rest(0, !wide, 0, 0));
            Due.is("turn of the other width", CAST, z.turn(0, !wide, 0, 0));
            Due.is("tide of the other width", CAST, z.tide(0, !wide, 0, 0));
            Due.is("sum of the other width", CAST, z.sum(0, !wide, 0, 0));
        }
    }

    // ---- "BITS tell a number: a double's 64, a float's 32 as the lowest ones (told: as an int)"

    private static void doublesAreTheir64Bits() {
        TideGauges x = wide(0.0);
        long[] edges = {0L, 1L, 2L, 0x000FFFFFFFFFFFFFL, 0x0010000000000000L, 0x0010000000000001L,
            0x3FEFFFFFFFFFFFFFL, 0x3FF0000000000000L, 0x3FF0000000000001L, 0x3FFFFFFFFFFFFFFFL, 0x4000000000000000L,
            0x7FE0000000000000L, 0x7FEFFFFFFFFFFFFFL, 0x7FF0000000000000L, 0x5FF00000FFFFFFFFL, 0x1234567880000000L};
        for (long size : edges) {
            for (long bits : new long[] {size, size | Long.MIN_VALUE}) {
                Due.is("put " + bits, 1, x.put(0, true, 0, bits));
                tells("get " + bits, x, x.get(0, true, 0), bits);
            }
        }
        for (int bit = 0; bit < 64; bit++) {
            Due.is("put of bit " + bit, 1, x.put(0, true, 0, 1L << bit));
            tells("get of bit " + bit, x, x.get(0, true, 0), 1L << bit);
        }
    }

    private static void floatsAreTheLowest32Bits() {
        int[] edges = {0, 1, 2, 0x007FFFFF, 0x00800000, 0x00800001, 0x3F7FFFFF, 0x3F800000, 0x3F800001, 0x3FFFFFFF,
            0x40000000, 0x7F000000, 0x7F7FFFFF, 0x7F800000};
        for (int size : edges) {
            for (int bits : new int[] {size, size | Integer.MIN_VALUE}) {
                TideGauges x = narrow(0.0f);
                for (long above : new long[] {0L, 1L << 32, -1L << 32, 0x7FF8000000000000L, Long.MIN_VALUE}) {
                    Due.is("put " + bits, 1, x.put(0, false, 0, (bits & 0xFFFFFFFFL) | above));
                    tells("told as an int " + bits, x, x.get(0, false, 0), bits);
                }
            }
        }
        TideGauges x = narrow(0.0f);
        for (int bit = 0; bit < 32; bit++) {
            Due.is("put of bit " + bit, 1, x.put(0, false, 0, 1L << bit));
            tells("get of bit " + bit, x, x.get(0, false, 0), 1 << bit);
        }
    }

    private static void doublesOfEveryPower() {
        for (long power = 0; power < 2047; power++) {
            TideGauges x = wide(0.0);
            for (long fraction : new long[] {0L, 1L, 0x8000000000000L, 0xFFFFFFFFFFFFFL}) {
                long bits = (power << 52) | fraction;
                Due.is("put " + bits, 1, x.put(0, true, 0, bits));
                tells("get " + bits, x, x.get(0, true, 0), bits);
                Due.is("put below 0 " + bits, 1, x.put(0, true, 0, bits | Long.MIN_VALUE));
                tells("get below 0 " + bits, x, x.get(0, true, 0), bits | Long.MIN_VALUE);
            }
        }
    }

    private static void floatsOfEveryPower() {
        for (int power = 0; power < 255; power++) {
            TideGauges x = narrow(0.0f);
            for (int fraction : new int[] {0, 1, 0x400000, 0x7FFFFF}) {
                int bits = (power << 23) | fraction;
                Due.is("put " + bits, 1, x.put(0, false, 0, bits));
                tells("get " + bits, x, x.get(0, false, 0), bits);
                tells("as a double " + bits, x, x.turn(0, false, 0, 6), bits((double) Float.intBitsToFloat(bits)));
                Due.is("put below 0 " + bits, 1, x.put(0, false, 0, bits | 0x80000000L));
                tells("get below 0 " + bits, x, x.get(0, false, 0), bits | Integer.MIN_VALUE);
            }
        }
    }

    // ---- "BITS of what is no number are BAD anywhere"; ENDLESS ones lie right beside them

    private static void bitsBesideThoseOfNoNumber() {
        TideGauges x = wide(1.0);
        Due.is("the greatest endless one is a number", 1, x.put(0, true, 0, 0x7FF0000000000000L));
        Due.is("one bit more is none", BAD, x.put(0, true, 0, 0x7FF0000000000001L));
        Due.is("the least endless one is a number", 1, x.put(0, true, 0, 0xFFF0000000000000L));
        Due.is("one bit more is none", BAD, x.put(0, true, 0, 0xFFF0000000000001L));
        has("the latest number stays", x, 0, -INF);
        Due.is("a double whose lowest 32 were no float", 1, x.put(0, true, 0, 0x3FF00000_7FC00000L));
        tells("it is there", x, x.get(0, true, 0), 0x3FF00000_7FC00000L);
        TideGauges y = narrow(1.0f);
        Due.is("the greatest endless float is a number", 1, y.put(0, false, 0, 0x7F800000L));
        Due.is("one bit more is none", BAD, y.put(0, false, 0, 0x7F800001L));
        Due.is("the least endless float is a number", 1, y.put(0, false, 0, 0xFF800000L));
        Due.is("one bit more is none", BAD, y.put(0, false, 0, 0xFF800001L));
        has("the latest float stays", y, 0, -INF32);
        TideGauges z = gauge(LONG, 1.0);
        tells("read of an endless one", z, z.read(0, 0x7FF0000000000000L, false), bits(0x1p63));
        Due.is("read of none", BAD, z.read(0, 0x7FF0000000000001L, false));
        Due.is("read of none, single", BAD, z.read(0, 0xFFF0000000000001L, true));
        tells("read, single, of a double whose lowest 32 were no float", z,
            z.read(0, 0x40080000_7FC00000L, true), bits(3.0f));
        Due.is("gauge of none", BAD, z.gauge(0, LONG, 0x7FF0000000000001L));
        Due.is("a span whose lowest 32 were no float", 1, z.gauge(0, STEP, 0x3FF00000_7FC00000L));
    }

    // ---- "no number here ever is none"

    private static void noNumberEverIsNone() {
        TideGauges x = wide(INF, -INF, 0.0, -0.0);
        for (int i = 0; i < 4; i++) {
            for (int j = 0; j < 4; j++) {
                boolean none = i < 2 || j > 1;
                Due.is("rest " + i + " by " + j, none ? NO_NUMBER : 1, x.rest(0, true, i, j));
            }
        }
        Due.is("unlike endless ones", NO_NUMBER, x.sum(0, true, 0, 2));
        tells("an endless one less an eighth", x, x.tide(0, true, 0, -1), bits(INF));
        tells("the other and the most eighths", x, x.tide(0, true, 1, Integer.MAX_VALUE), bits(-INF));
        tells("an endless one as an int", x, x.turn(0, true, 0, 3), Integer.MAX_VALUE);
    }

    // ---- "FAILURE 3 CAST ..; 1 MISSING ..; 2 OUTSIDE ..; in this order"

    private static void castIsAheadOfOutside() {
        for (boolean wide : WIDTHS) {
            TideGauges x = new TideGauges();
            x.row(0, wide, 2);
            for (int i : new int[] {-1, 2, 12, Integer.MIN_VALUE, Integer.MAX_VALUE}) {
                Due.is("put", CAST, x.put(0, !wide, i, 0L));
                Due.is("get", CAST, x.get(0, !wide, i));
                Due.is("rest, i", CAST, x.rest(0, !wide, i, 0));
                Due.is("rest, j", CAST, x.rest(0, !wide, 0, i));
                Due.is("turn", CAST, x.turn(0, !wide, i, 0));
                Due.is("tide", CAST, x.tide(0, !wide, i, 0));
                Due.is("sum", CAST, x.sum(0, !wide, i, 1));
            }
        }
    }

    private static void missingIsAheadOfOutside() {
        TideGauges x = new TideGauges();
        for (boolean wide : WIDTHS) {
            for (int i : new int[] {-1, 0, 12, Integer.MAX_VALUE}) {
                Due.is("put", MISSING, x.put(0, wide, i, 0L));
                Due.is("get", MISSING, x.get(0, wide, i));
                Due.is("rest", MISSING, x.rest(0, wide, i, i));
                Due.is("turn", MISSING, x.turn(0, wide, i, 0));
                Due.is("tide", MISSING, x.tide(0, wide, i, 0));
                Due.is("sum", MISSING, x.sum(0, wide, i, 1));
            }
        }
        Due.is("hang", MISSING, x.hang(0, 4, 0));
        Due.is("take", MISSING, x.take(0, 4, STEP, 0));
    }

    // ---- "A FAILURE is told as -10 less it" (it is the answer; what told() answers stays)

    private static void failuresAreMinusTenLessThem() {
        TideGauges x = wide(1.0, 0.0);
        x.gauge(0, LONG, bits(1.0));
        x.rack(0, STEP);
        x.get(0, true, 0);
        Due.is("1 MISSING", -10 - 1, x.get(1, true, 0));
        Due.is("2 OUTSIDE", -10 - 2, x.get(0, true, 2));
        Due.is("3 CAST", -10 - 3, x.get(0, false, 0));
        Due.is("4 NO NUMBER", -10 - 4, x.rest(0, true, 0, 1));
        Due.is("5 STORE", -10 - 5, x.hang(0, 0, 0));
        Due.is("BAD", -1, x.get(8, true, 0));
        Due.is("told stays", bits(1.0), x.told());
    }

    // ---- "The REST of x by y (two of one width): x less y as often as that goes towards 0, exactly"

    private static void restsGoTowardsZero() {
        rest(5.5, 2.0, 1.5);
        rest(5.5, -2.0, 1.5);
        rest(-5.5, 2.0, -1.5);
        rest(-5.5, -2.0, -1.5);
        rest(5.5f, 2.0f, 1.5f);
        rest(5.5f, -2.0f, 1.5f);
        rest(-5.5f, 2.0f, -1.5f);
        rest(-5.5f, -2.0f, -1.5f);
    }

    private static void restsAreExact() {
        rest(1.0, 0.1, 0.09999999999999995);
        rest(MOST, 3.0, 2.0);
        rest(-MOST, 3.0, -2.0);
        rest(MOST, LEAST, 0.0);
        rest(0x1p1023, 3 * LEAST, 2 * LEAST);
        rest(5 * LEAST, 3 * LEAST, 2 * LEAST);
        rest(0x1p-1022, 3 * LEAST, LEAST);
        rest(MOST, 0x1.ffffffffffffep1023, 0x1p971);
        rest(1.0f, 13421773 * 0x1p-27f, 13421771 * 0x1p-27f);
        rest(MOST32, 11.0f, 9.0f);
        rest(-MOST32, -11.0f, -9.0f);
        rest(MOST32, LEAST32, 0.0f);
        rest(5 * LEAST32, 3 * LEAST32, 2 * LEAST32);
        rest(0x1p127f, 3 * LEAST32, LEAST32);
        rest(MOST32, 0x1.fffffcp127f, 0x1p104f);
    }

    // ---- "of x's sign (also 0.0 and -0.0)"

    private static void restsHaveTheSignOfX() {
        rest(4.0, 2.0, 0.0);
        rest(4.0, -2.0, 0.0);
        rest(-4.0, 2.0, -0.0);
        rest(-4.0, -2.0, -0.0);
        rest(0.0, -2.0, 0.0);
        rest(-0.0, 2.0, -0.0);
        rest(-LEAST, LEAST, -0.0);
        rest(4.0f, -2.0f, 0.0f);
        rest(-4.0f, 2.0f, -0.0f);
        rest(0.0f, -2.0f, 0.0f);
        rest(-0.0f, 2.0f, -0.0f);
        rest(-LEAST32, LEAST32, -0.0f);
    }

    // ---- "x itself, if y is ENDLESS"

    private static void restsByEndlessOnes() {
        for (double x : new double[] {0.0, -0.0, 1.5, -1.5, LEAST, -LEAST, MOST, -MOST}) {
            rest(x, INF, x);
            rest(x, -INF, x);
        }
        for (float x : new float[] {0.0f, -0.0f, 1.5f, -1.5f, LEAST32, -LEAST32, MOST32, -MOST32}) {
            rest(x, INF32, x);
            rest(x, -INF32, x);
        }
    }

    private static void restsOfLessThanY() {
        rest(1.5, 2.0, 1.5);
        rest(-1.5, 2.0, -1.5);
        rest(0x1.fffffffffffffp0, 2.0, 0x1.fffffffffffffp0);
        rest(0x1.0000000000001p1, 2.0, 0x1p-51);
        rest(LEAST, MOST, LEAST);
        rest(0x1.fffffep0f, -2.0f, 0x1.fffffep0f);
        rest(0x1.000002p1f, -2.0f, 0x1p-22f);
        rest(-LEAST32, MOST32, -LEAST32);
    }

    // ---- "NO NUMBER: y is 0, or x ENDLESS"

    private static void restsHaveNoNumber() {
        double[] all = {0.0, -0.0, 1.5, INF, -INF};
        for (double v : all) {
            for (double by : all) {
                boolean none = by == 0.0 || v == INF || v == -INF;
                TideGauges x = wide(v, by);
                Due.is("REST of " + v + " by " + by, none ? NO_NUMBER : 1, x.rest(0, true, 0, 1));
                TideGauges y = narrow((float) v, (float) by);
                Due.is("REST of floats " + v + " by " + by, none ? NO_NUMBER : 1, y.rest(0, false, 0, 1));
            }
        }
    }

    // ---- "3 an int, 4 a long: cut towards 0, what is beyond the greatest, the least; 0 a byte, 1 a short, 2 a char:
    // ---- of the int the lowest bits"

    private static void turnedIntoWholeNumbers() {
        turnedAreCutTowardsZero();
        turnedIntoIntsBeyond();
        turnedIntoLongsBeyond();
        turnedIntoBytes();
        turnedIntoShorts();
        turnedIntoChars();
    }

    private static void turnedAreCutTowardsZero() {
        for (int to : new int[] {0, 1, 3, 4}) {
            turn(1.9999999999999998, to, 1);
            turn(-1.9999999999999998, to, -1);
            turn(0.9999999999999999, to, 0);
            turn(-0.9999999999999999, to, 0);
            turn(-0.0, to, 0);
            turn(LEAST, to, 0);
            turn(1.9999999f, to, 1);
            turn(-1.9999999f, to, -1);
            turn(-0.99999994f, to, 0);
            turn(-0.0f, to, 0);
        }
        turn(1.9999999999999998, 2, 1);
        turn(-1.9999999999999998, 2, 65535);
        turn(-0.9999999999999999, 2, 0);
    }

    private static void turnedIntoIntsBeyond() {
        turn(2147483646.9, 3, 2147483646);
        turn(2147483647.0, 3, 2147483647);
        turn(2147483647.9, 3, 2147483647);
        turn(2147483648.0, 3, 2147483647);
        turn(4294967296.0, 3, 2147483647);
        turn(MOST, 3, 2147483647);
        turn(INF, 3, 2147483647);
        turn(-2147483647.9, 3, -2147483647);
        turn(-2147483648.0, 3, -2147483648);
        turn(-2147483648.9, 3, -2147483648);
        turn(-2147483649.0, 3, -2147483648);
        turn(-4294967297.0, 3, -2147483648);
        turn(-INF, 3, -2147483648);
        turn(0x1.fffffep30f, 3, 2147483520);
        turn(0x1p31f, 3, 2147483647);
        turn(INF32, 3, 2147483647);
        turn(-0x1p31f, 3, -2147483648);
        turn(-MOST32, 3, -2147483648);
    }

    private static void turnedIntoLongsBeyond() {
        turn(2147483648.0, 4, 2147483648L);
        turn(-2147483649.5, 4, -2147483649L);
        turn(0x1.fffffffffffffp62, 4, 9223372036854774784L);
        turn(0x1p63, 4, Long.MAX_VALUE);
        turn(0x1p64, 4, Long.MAX_VALUE);
        turn(MOST, 4, Long.MAX_VALUE);
        turn(INF, 4, Long.MAX_VALUE);
        turn(-0x1.fffffffffffffp62, 4, -9223372036854774784L);
        turn(-0x1p63, 4, Long.MIN_VALUE);
        turn(-0x1.0000000000001p63, 4, Long.MIN_VALUE);
        turn(-INF, 4, Long.MIN_VALUE);
        turn(0x1.fffffep62f, 4, 9223371487098961920L);
        turn(0x1p63f, 4, Long.MAX_VALUE);
        turn(-0x1.000002p63f, 4, Long.MIN_VALUE);
        turn(-INF32, 4, Long.MIN_VALUE);
    }

    private static void turnedIntoBytes() {
        turn(127.9, 0, 127);
        turn(128.0, 0, -128);
        turn(255.0, 0, -1);
        turn(256.0, 0, 0);
        turn(300.0, 0, 44);
        turn(-128.9, 0, -128);
        turn(-129.0, 0, 127);
        turn(2147483648.0, 0, -1);
        turn(4294967300.0, 0, -1);
        turn(INF, 0, -1);
        turn(-2147483649.0, 0, 0);
        turn(-4294967297.0, 0, 0);
        turn(-INF, 0, 0);
        turn(128.5f, 0, -128);
        turn(-INF32, 0, 0);
        turn(INF32, 0, -1);
    }

    private static void turnedIntoShorts() {
        turn(32767.9, 1, 32767);
        turn(32768.0, 1, -32768);
        turn(65535.0, 1, -1);
        turn(65536.0, 1, 0);
        turn(-32768.9, 1, -32768);
        turn(-32769.0, 1, 32767);
        turn(2147483648.0, 1, -1);
        turn(4294967300.0, 1, -1);
        turn(INF, 1, -1);
        turn(-2147483649.0, 1, 0);
        turn(-INF, 1, 0);
        turn(32768.5f, 1, -32768);
        turn(-INF32, 1, 0);
        turn(INF32, 1, -1);
    }

    private static void turnedIntoChars() {
        turn(65535.9, 2, 65535);
        turn(65536.0, 2, 0);
        turn(32768.0, 2, 32768);
        turn(-1.0, 2, 65535);
        turn(-65536.0, 2, 0);
        turn(2147483648.0, 2, 65535);
        turn(4294967300.0, 2, 65535);
        turn(INF, 2, 65535);
        turn(-2147483649.0, 2, 0);
        turn(-INF, 2, 0);
        turn(-1.5f, 2, 65535);
        turn(-INF32, 2, 0);
        turn(INF32, 2, 65535);
    }

    // ---- "5 a float: the nearest one (of two the even one; beyond: ENDLESS); 6 a double"

    private static void turnedIntoFloatsAndDoubles() {
        turnedIntoTheNearestFloat();
        turnedBeyondFloats();
        turnedIntoTheLeastFloats();
        turnedIntoDoubles();
    }

    private static void turnedIntoTheNearestFloat() {
        turn(0.1, 5, 0x3DCCCCCDL);
        turn(-0.1, 5, 0xFFFFFFFFBDCCCCCDL);
        turn(0x1.000001p0, 5, 0x3F800000L);
        turn(0x1.0000010000001p0, 5, 0x3F800001L);
        turn(0x1.0000030000000p0, 5, 0x3F800002L);
        turn(0x1.000002fffffffp0, 5, 0x3F800001L);
        turn(-0x1.000003p0, 5, 0xFFFFFFFFBF800002L);
        turn(0x1.ffffffp0, 5, 0x40000000L);
        turn(0x1.fffffefffffffp0, 5, 0x3FFFFFFFL);
        turn(16777217.0, 5, 0x4B800000L);
        turn(16777219.0, 5, 0x4B800002L);
    }

    private static void turnedBeyondFloats() {
        turn(0x1.fffffep127, 5, 0x7F7FFFFFL);
        turn(0x1.fffffefffffffp127, 5, 0x7F7FFFFFL);
        turn(0x1.ffffffp127, 5, 0x7F800000L);
        turn(0x1p128, 5, 0x7F800000L);
        turn(MOST, 5, 0x7F800000L);
        turn(INF, 5, 0x7F800000L);
        turn(-0x1.fffffefffffffp127, 5, 0xFFFFFFFFFF7FFFFFL);
        turn(-0x1.ffffffp127, 5, 0xFFFFFFFFFF800000L);
        turn(-INF, 5, 0xFFFFFFFFFF800000L);
    }

    private static void turnedIntoTheLeastFloats() {
        turn(0.0, 5, 0L);
        turn(-0.0, 5, 0xFFFFFFFF80000000L);
        turn(LEAST, 5, 0L);
        turn(-LEAST, 5, 0xFFFFFFFF80000000L);
        turn(0x1p-149, 5, 1L);
        turn(0x1p-150, 5, 0L);
        turn(-0x1p-150, 5, 0xFFFFFFFF80000000L);
        turn(0x1.0000000000001p-150, 5, 1L);
        turn(0x1.8p-149, 5, 2L);
        turn(0x1.4p-148, 5, 2L);
        turn(0x1.fffffcp-127, 5, 0x007FFFFFL);
        turn(0x1.fffffep-127, 5, 0x00800000L);
    }

    private static void turnedIntoDoubles() {
        for (double v : new double[] {0.0, -0.0, 0.1, LEAST, -MOST, INF, -INF}) {
            turn(v, 6, bits(v));
        }
        turn(0.1f, 6, bits(0.10000000149011612));
        turn(-0.0f, 6, Long.MIN_VALUE);
        turn(LEAST32, 6, bits(0x1p-149));
        turn(-MOST32, 6, bits(-0x1.fffffep127));
        turn(INF32, 6, bits(INF));
        turn(-INF32, 6, bits(-INF));
        for (float v : new float[] {0.0f, -0.0f, 0.1f, LEAST32, -MOST32, INF32, -INF32}) {
            turn(v, 5, bits(v));
        }
    }

    // ---- "PLACES 0 .. 5 of their own have a GAUGE or none (at first), of a KIND with a SPAN (a double, neither 0 nor
    // ---- ENDLESS)"

    private static void placesOfGaugesAreZeroToFive() {
        TideGauges x = new TideGauges();
        for (int place = 0; place < 6; place++) {
            Due.is("none at first", MISSING, x.read(place, 0L, false));
            Due.is("none at first, counted", BAD, x.count(11 + place));
            Due.is("gauge in PLACE " + place, 1, x.gauge(place, place % 3, bits(place + 1.0)));
        }
        tells("PLACE 0 is a STEP", x, x.read(0, bits(-7.5), false), bits(-7.0));
        tells("PLACE 1 is a WRAP", x, x.read(1, bits(-7.5), false), bits(0.5));
        tells("PLACE 2 is a LONG", x, x.read(2, bits(-7.5), false), bits(-7.0));
        tells("PLACE 3 is a STEP", x, x.read(3, bits(-7.5), false), bits(-4.0));
        tells("PLACE 4 is a WRAP", x, x.read(4, bits(-7.5), false), bits(2.5));
        tells("PLACE 5 is a LONG", x, x.read(5, bits(-7.5), false), bits(-7.0));
        Due.is("no PLACE 6", BAD, x.gauge(6, STEP, bits(1.0)));
        Due.is("no PLACE -1", BAD, x.gauge(-1, STEP, bits(1.0)));
    }

    private static void placesOfGaugesAreOfTheirOwn() {
        TideGauges x = wide(1.5);
        Due.is("a ROW is no GAUGE", MISSING, x.read(0, 0L, false));
        x.gauge(0, LONG, bits(1.0));
        has("the ROW is still there", x, 0, 1.5);
        Due.is("clear of the ROW", 1, x.clear(0));
        Due.is("the GAUGE is still there", LONG, x.count(11));
        Due.is("and is no ROW", MISSING, x.get(0, true, 0));
    }

    private static void spansOfAllSizes() {
        reads(STEP, LEAST, 1.5, 1.5);
        reads(STEP, -LEAST, -1.5, -1.5);
        reads(STEP, MOST, 1.5, 0.0);
        reads(STEP, MOST, MOST, MOST);
        reads(STEP, -MOST, -MOST, -MOST);
        reads(WRAP, LEAST, 1.5, 0.0);
        reads(WRAP, MOST, 1.5, 1.5);
        reads(WRAP, MOST, -1.5, MOST);
        reads(LONG, LEAST, 1.5, 1.0);
        reads(LONG, -MOST, -1.5, -1.0);
        for (int kind = 0; kind < 3; kind++) {
            TideGauges x = new TideGauges();
            Due.is("0.0 is no SPAN", BAD, x.gauge(0, kind, bits(0.0)));
            Due.is("-0.0 is no SPAN", BAD, x.gauge(0, kind, bits(-0.0)));
            Due.is("an endless one is no SPAN", BAD, x.gauge(0, kind, bits(INF)));
            Due.is("an endless one below 0 is no SPAN", BAD, x.gauge(0, kind, bits(-INF)));
            Due.is("no GAUGE is there", 0, x.count(1));
        }
    }

    // ---- "0 STEP: v less the REST of v by SPAN (NO NUMBER, if v is ENDLESS)"

    private static void steps() {
        for (double span : new double[] {2.5, -2.5}) {
            reads(STEP, span, 6.0, 5.0);
            reads(STEP, span, -6.0, -5.0);
            reads(STEP, span, 5.0, 5.0);
            reads(STEP, span, -5.0, -5.0);
            reads(STEP, span, 2.5, 2.5);
            reads(STEP, span, 0x1.3ffffffffffffp1, 0.0);
            reads(STEP, span, -0x1.3ffffffffffffp1, 0.0);
            reads(STEP, span, 0.0, 0.0);
            reads(STEP, span, -0.0, 0.0);
            reads(STEP, span, -LEAST, 0.0);
            TideGauges x = gauge(STEP, span);
            Due.is("STEP of an endless one", NO_NUMBER, x.read(0, bits(INF), false));
            Due.is("STEP of an endless one below 0", NO_NUMBER, x.read(0, bits(-INF), true));
        }
        reads(STEP, 3.0, MOST, MOST);
        // 2^54 less 1 lies between two doubles; the even one is 2^54.
        reads(STEP, 3.0, 0x1p54, 0x1p54);
        reads(STEP, 3.0, -0x1p54, -0x1p54);
        // 2^55 less 10 lies between 2^55 less 12 and 2^55 less 8; that is the even one.
        reads(STEP, 11.0, 0x1p55, 0x1p55 - 8.0);
        reads(STEP, 0.1, 1.0, 0.9);
        readsSingle(STEP, 2.5, -6.0, -5.0f);
        readsSingle(STEP, 2.5, -0.0, 0.0f);
        readsSingle(STEP, 1.0, 16777217.5, 16777216.0f);
        readsSingle(STEP, 1.0, 16777219.5, 16777220.0f);
        readsSingle(STEP, 1.0, MOST, INF32);
        readsSingle(STEP, 1.0, -MOST, -INF32);
        readsSingle(STEP, LEAST, -LEAST, -0.0f);
        readsSingle(STEP, 0.3, 0.5, 0.3f);
    }

    // ---- "1 WRAP (it is a STEP): v less what a STEP tells of v (NO NUMBER likewise); if that is below 0, it and the
    // ---- size of SPAN"

    private static void wraps() {
        for (double span : new double[] {2.5, -2.5}) {
            reads(WRAP, span, 6.0, 1.0);
            reads(WRAP, span, -6.0, 1.5);
            reads(WRAP, span, 5.0, 0.0);
            reads(WRAP, span, -5.0, 0.0);
            reads(WRAP, span, 0x1.3ffffffffffffp1, 0x1.3ffffffffffffp1);
            reads(WRAP, span, -0x1.3ffffffffffffp1, 0x1p-51);
            reads(WRAP, span, 0.0, 0.0);
            reads(WRAP, span, -0.0, -0.0);
            reads(WRAP, span, LEAST, LEAST);
            reads(WRAP, span, -LEAST, 2.5);
            reads(WRAP, span, MOST, 0.0);
            TideGauges x = gauge(WRAP, span);
            Due.is("WRAP of an endless one", NO_NUMBER, x.read(0, bits(INF), true));
            Due.is("WRAP of an endless one below 0", NO_NUMBER, x.read(0, bits(-INF), false));
        }
        // A STEP tells 2^54 of 2^54, so that a WRAP does not tell the REST.
        reads(WRAP, 3.0, 0x1p54, 0.0);
        reads(WRAP, 3.0, -0x1p54, 0.0);
        reads(WRAP, 11.0, 0x1p55, 8.0);
        reads(WRAP, 11.0, -0x1p55, 3.0);
        readsSingle(WRAP, 2.5, -6.0, 1.5f);
        readsSingle(WRAP, -2.5, -LEAST, 2.5f);
        readsSingle(WRAP, 2.5, -0.0, -0.0f);
        readsSingle(WRAP, 2.5, 0.1, 0.1f);
        readsSingle(WRAP, MOST, -1.0, INF32);
        readsSingle(WRAP, 0x1p25, 16777217.0, 16777216.0f);
        readsSingle(WRAP, 0x1p25, -16777213.0, 16777220.0f);
    }

    // ---- "2 LONG: v TURNED into a long, as a double"; "but of a LONG: v TURNED into a float, that into a long, that
    // ---- into a float"

    private static void longs() {
        reads(LONG, 2.5, 6.9, 6.0);
        reads(LONG, 2.5, -6.9, -6.0);
        reads(LONG, 2.5, -0.9, 0.0);
        reads(LONG, 2.5, -0.0, 0.0);
        reads(LONG, 2.5, 0x1.fffffffffffffp62, 0x1.fffffffffffffp62);
        reads(LONG, 2.5, 0x1p63, 0x1p63);
        reads(LONG, 2.5, 0x1p64, 0x1p63);
        reads(LONG, 2.5, INF, 0x1p63);
        reads(LONG, 2.5, -0x1p64, -0x1p63);
        reads(LONG, 2.5, -INF, -0x1p63);
        readsSingle(LONG, 2.5, -6.9, -6.0f);
        readsSingle(LONG, 2.5, -0.9, 0.0f);
        readsSingle(LONG, 2.5, -0.0, 0.0f);
        // The float is 2.0, where the long of the double is 1.
        readsSingle(LONG, 2.5, 0x1.ffffffffp0, 2.0f);
        readsSingle(LONG, 2.5, -0x1.ffffffffp0, -2.0f);
        readsSingle(LONG, 2.5, 0x1.fffffefffffffp0, 1.0f);
        // The long of the double would be even and round to 16777218.
        readsSingle(LONG, 2.5, 16777217.5, 16777218.0f);
        readsSingle(LONG, 2.5, 16777217.0, 16777216.0f);
        readsSingle(LONG, 2.5, 1e300, 0x1p63f);
        readsSingle(LONG, 2.5, -1e300, -0x1p63f);
        readsSingle(LONG, 2.5, INF, 0x1p63f);
        readsSingle(LONG, 2.5, -INF, -0x1p63f);
    }

    // ---- "RACKS 0 .. 2 have 4 hooks, made for a KIND: they hold GAUGES of that KIND (of STEP: WRAPS, too), or none"

    private static void racksAreZeroToTwo() {
        TideGauges x = gauge(STEP, 2.0);
        for (int rack = 0; rack < 3; rack++) {
            Due.is("there is no RACK " + rack, MISSING, x.hang(rack, 0, 0));
            Due.is("rack " + rack, 1, x.rack(rack, STEP));
            Due.is("there is RACK " + rack, 1, x.hang(rack, 0, 0));
        }
        Due.is("no RACK -1", BAD, x.rack(-1, STEP));
        Due.is("no RACK 3", BAD, x.rack(3, STEP));
    }

    private static void racksHaveFourHooks() {
        TideGauges x = new TideGauges();
        for (int rack = 0; rack < 3; rack++) {
            x.rack(rack, STEP);
            for (int i = 0; i < 4; i++) {
                x.gauge(0, STEP, bits(4.0 * rack + i + 1.0));
                Due.is("hook " + i, 1, x.hang(rack, i, 0));
            }
            Due.is("no hook 4", OUTSIDE, x.hang(rack, 4, 0));
            Due.is("no hook -1", OUTSIDE, x.hang(rack, -1, 0));
        }
        for (int rack = 0; rack < 3; rack++) {
            for (int i = 0; i < 4; i++) {
                Due.is("take from hook " + i, 1, x.take(rack, i, STEP, 5));
                double span = 4.0 * rack + i + 1.0;
                tells("each hook has its own", x, x.read(5, bits(span + 0.5), false), bits(span));
            }
            Due.is("nothing to take from hook 4", OUTSIDE, x.take(rack, 4, STEP, 5));
            Due.is("nothing to take from hook -1", OUTSIDE, x.take(rack, -1, STEP, 5));
        }
    }

    private static void racksHoldWhatFits() {
        TideGauges x = new TideGauges();
        for (int kind = 0; kind < 3; kind++) {
            x.gauge(kind, kind, bits(1.0));
            x.rack(kind, kind);
        }
        int[][] answers = {{1, 1, STORE}, {STORE, 1, STORE}, {STORE, STORE, 1}};
        for (int rack = 0; rack < 3; rack++) {
            for (int kind = 0; kind < 3; kind++) {
                Due.is("RACK of " + rack + " for " + kind, answers[rack][kind], x.hang(rack, kind, kind));
                Due.is("what is there", answers[rack][kind] == 1 ? 1 : 0, x.take(rack, kind, kind, 4));
            }
            Due.is("none", 1, x.hang(rack, rack, 5));
            Due.is("is on the hook", 0, x.take(rack, rack, LONG, 4));
        }
    }

    // ---- Promise 1: "No ROWS, GAUGES, RACKS."

    private static void newObjectsHaveNothing() {
        TideGauges x = new TideGauges();
        Due.is("no ROWS", 0, x.count(0));
        Due.is("no GAUGES", 0, x.count(1));
        Due.is("no RACKS", 0, x.count(2));
        Due.is("nothing told", 0, x.told());
    }

    private static void objectsAreApart() {
        TideGauges x = Harbour.made();
        TideGauges y = new TideGauges();
        Due.is("no ROWS of another object", 0, y.count(0));
        Due.is("no GAUGES of another object", 0, y.count(1));
        Due.is("no RACKS of another object", 0, y.count(2));
        Due.is("nothing told by another object", 0, y.told());
        y.row(0, false, 1);
        y.gauge(0, LONG, bits(1.0));
        y.rack(0, LONG);
        Due.is("the other one stays", -1, java.util.Arrays.mismatch(Harbour.look(Harbour.made()), Harbour.look(x)));
    }

    // ---- Promise 2: "A new ROW of n ITEMS (0 .. 12) in a PLACE: 1."

    private static void newRowsReplaceEarlierOnes() {
        TideGauges x = wide(1.0, 2.0, 3.0);
        x.share(0, 1);
        Due.is("a new ROW", 1, x.row(0, false, 5));
        Due.is("of its own size", 5, x.count(3));
        Due.is("of its own width", CAST, x.get(0, true, 0));
        has("with ITEMS of its own", x, 4, 0.0f);
        x.put(0, false, 0, bits(9.0f));
        tells("the earlier one is where else it was", x, x.get(1, true, 0), bits(1.0));
        Due.is("a new ROW like the other", 1, x.row(0, true, 3));
        x.put(0, true, 0, bits(4.0));
        tells("is not the other", x, x.get(1, true, 0), bits(1.0));
        Due.is("two PLACES have one", 2, x.count(0));
    }

    // ---- Promise 3: "PLACE to gets what PLACE from has, or none: 1, 0."

    private static void sharingGivesWhatIsThere() {
        TideGauges x = wide(1.0);
        x.row(1, false, 2);
        Due.is("over another ROW", 1, x.share(0, 1));
        tells("it is there", x, x.get(1, true, 0), bits(1.0));
        Due.is("with its size", 1, x.count(4));
        Due.is("to a PLACE with none", 1, x.share(1, 7));
        tells("a tide in one", x, x.tide(7, true, 0, 4), bits(0.5));
        has("is in the other", x, 0, 0.5);
        x.row(0, true, 1);
        tells("a new ROW in from leaves to", x, x.get(1, true, 0), bits(0.5));
    }

    private static void sharingGivesNone() {
        TideGauges x = wide(1.0);
        Due.is("none over a ROW", 0, x.share(5, 0));
        Due.is("it is gone", MISSING, x.get(0, true, 0));
        Due.is("from no PLACE", 0, x.count(0));
        Due.is("none over none", 0, x.share(5, 0));
    }

    private static void sharingWithItself() {
        TideGauges x = wide(1.0);
        Due.is("a ROW with itself", 1, x.share(0, 0));
        has("it is still there", x, 0, 1.0);
        Due.is("none with itself", 0, x.share(1, 1));
        Due.is("one ROW is there", 1, x.count(0));
    }

    // ---- Promise 4: "A PLACE has no ROW any more: whether it had one (1, 0)."

    private static void clearingTellsWhetherThereWasOne() {
        TideGauges x = wide(1.0);
        x.share(0, 7);
        Due.is("it had one", 1, x.clear(0));
        Due.is("it has none any more", MISSING, x.get(0, true, 0));
        Due.is("it had none", 0, x.clear(0));
        tells("the other PLACE has it", x, x.get(7, true, 0), bits(1.0));
        Due.is("one PLACE has one", 1, x.count(0));
        Due.is("it comes back", 1, x.share(7, 0));
        has("as it was", x, 0, 1.0);
    }

    // ---- Promise 5: "An ITEM of a PLACE becomes what BITS tell: 1."

    private static void puttingIsSeen() {
        TideGauges x = wide(1.0, 2.0, 3.0);
        Due.is("put", 1, x.put(0, true, 1, bits(-0.0)));
        has("the one ahead stays", x, 0, 1.0);
        has("the ITEM is another", x, 1, -0.0);
        has("the one behind stays", x, 2, 3.0);
        Due.is("put of an endless one", 1, x.put(0, true, 2, bits(-INF)));
        has("it is there", x, 2, -INF);
        TideGauges y = new TideGauges();
        y.row(0, true, 1);
        y.put(0, true, 0, bits(5.0));
        Due.is("put tells nothing", 0, y.told());
    }

    // ---- Promise 6: "An ITEM is TOLD: 1."

    private static void gettingTells() {
        TideGauges x = wide(1.0, -0.0, INF);
        has("the first", x, 0, 1.0);
        has("-0.0", x, 1, -0.0);
        has("the last", x, 2, INF);
        has("again", x, 2, INF);
        TideGauges y = narrow(-1.0f, -0.0f, -INF32);
        has("a float below 0 as an int", y, 0, -1.0f);
        Due.is("its bits", 0xFFFFFFFFBF800000L, y.told());
        has("-0.0 of floats", y, 1, -0.0f);
        Due.is("its bits", 0xFFFFFFFF80000000L, y.told());
        has("the least float", y, 2, -INF32);
        Due.is("its bits", 0xFFFFFFFFFF800000L, y.told());
    }

    // ---- Promise 7: "The REST of ITEM i by ITEM j is TOLD: 1. .. 2 (i, then j), 4"

    private static void restsAreToldAndKeptNowhere() {
        TideGauges x = wide(7.5, 2.0);
        tells("i by j", x, x.rest(0, true, 0, 1), bits(1.5));
        tells("j by i", x, x.rest(0, true, 1, 0), bits(2.0));
        tells("i by itself", x, x.rest(0, true, 0, 0), bits(0.0));
        has("i stays", x, 0, 7.5);
        has("j stays", x, 1, 2.0);
        Due.is("no i", OUTSIDE, x.rest(0, true, 2, 0));
        Due.is("no j", OUTSIDE, x.rest(0, true, 0, 2));
        Due.is("no i below", OUTSIDE, x.rest(0, true, -1, 0));
        Due.is("no j below", OUTSIDE, x.rest(0, true, 0, -1));
        x.put(0, true, 1, bits(0.0));
        Due.is("by 0", NO_NUMBER, x.rest(0, true, 0, 1));
        Due.is("2 of j is ahead of 4", OUTSIDE, x.rest(0, true, 1, 2));
        Due.is("2 of i is ahead of 4", OUTSIDE, x.rest(0, true, 2, 1));
        Due.is("the latest stays TOLD", bits(2.0), x.told());
    }

    // ---- Promise 8: "ITEM i is TOLD, TURNED (to 0 .. 6): 1."

    private static void turnsAreToldAndKeptNowhere() {
        TideGauges x = wide(1.0, 300.7);
        long[] want = {44, 300, 300, 300, 300, bits(300.7f), bits(300.7)};
        for (int to = 0; to <= 6; to++) {
            tells("to " + to, x, x.turn(0, true, 1, to), want[to]);
            has("the ITEM stays", x, 1, 300.7);
        }
        Due.is("to -1", BAD, x.turn(0, true, 1, -1));
        Due.is("to 7", BAD, x.turn(0, true, 1, 7));
        TideGauges y = narrow(1.0f, -300.7f);
        long[] wantNarrow = {-44, -300, 65236, -300, -300, bits(-300.7f), bits((double) -300.7f)};
        for (int to = 0; to <= 6; to++) {
            tells("floats to " + to, y, y.turn(0, false, 1, to), wantNarrow[to]);
        }
        has("the float stays", y, 1, -300.7f);
    }

    // ---- Promise 9: "ITEM i gets a number of eighths more (that number as one of its width, by 8.0; .."

    private static void tidesAddEighths() {
        TideGauges x = wide(0.0, 1.0);
        tells("one eighth", x, x.tide(0, true, 1, 1), bits(1.125));
        tells("eight eighths less", x, x.tide(0, true, 1, -8), bits(0.125));
        tells("none", x, x.tide(0, true, 1, 0), bits(0.125));
        tells("down to 0.0", x, x.tide(0, true, 1, -1), bits(0.0));
        tells("the most", x, x.tide(0, true, 1, Integer.MAX_VALUE), bits(268435455.875));
        tells("and the least", x, x.tide(0, true, 1, Integer.MIN_VALUE), bits(-0.125));
        TideGauges y = narrow(0.0f, 1.0f);
        tells("one eighth of floats", y, y.tide(0, false, 1, 1), bits(1.125f));
        tells("nine eighths of floats less", y, y.tide(0, false, 1, -9), bits(0.0f));
        TideGauges z = wide(0.0, -0.0);
        tells("-0.0 and no eighth", z, z.tide(0, true, 1, 0), bits(0.0));
    }

    private static void tidesAddEighthsOfTheWidth() {
        TideGauges x = wide(0.0, 0.0);
        tells("16777217 as a double", x, x.tide(0, true, 1, 16777217), bits(2097152.125));
        tells("the most as a double", x, x.tide(0, true, 1, Integer.MAX_VALUE), bits(270532608.0));
        TideGauges y = narrow(0.0f, 0.0f);
        tells("16777217 as a float", y, y.tide(0, false, 1, 16777217), bits(2097152.0f));
        y.put(0, false, 1, 0L);
        tells("16777219 as a float", y, y.tide(0, false, 1, 16777219), bits(2097152.5f));
        y.put(0, false, 1, bits(-2097152.0f));
        // As a double the number would leave one eighth here.
        tells("16777217 as a float, then less", y, y.tide(0, false, 1, 16777217), bits(0.0f));
        y.put(0, false, 1, bits(-268435456.0f));
        tells("the most as a float", y, y.tide(0, false, 1, Integer.MAX_VALUE), bits(0.0f));
    }

    // ---- ".. the sum rounded to its width)"

    private static void tidesRoundTheSumToTheWidth() {
        TideGauges x = narrow(0.0f, 16777216.0f);
        tells("to the even float below", x, x.tide(0, false, 1, 8), bits(16777216.0f));
        tells("to the nearest float", x, x.tide(0, false, 1, 9), bits(16777218.0f));
        tells("to the even float above", x, x.tide(0, false, 1, 8), bits(16777220.0f));
        TideGauges y = wide(0.0, 0x1p53);
        tells("to the even double below", y, y.tide(0, true, 1, 8), bits(0x1p53));
        tells("to the nearest double", y, y.tide(0, true, 1, 9), bits(0x1p53 + 2.0));
        tells("to the even double above", y, y.tide(0, true, 1, 8), bits(0x1p53 + 4.0));
        TideGauges z = narrow(3.0f, 16777216.0f);
        // 16777217 by 3 would leave 2; the rounded sum leaves 1.
        tells("ahead of the REST", z, z.tide(0, false, 1, 8), bits(1.0f));
        TideGauges w = wide(0.0, MOST);
        tells("the most stays", w, w.tide(0, true, 1, Integer.MAX_VALUE), bits(MOST));
    }

    // ---- "then, if ITEM 0 as it was is not 0, and the sum is not ENDLESS, it becomes the REST of that by ITEM 0 as it
    // ---- was: 1; it is TOLD"

    private static void tidesGoAroundItemZero() {
        TideGauges x = wide(2.5, 1.0, -2.0, 7.0);
        tells("around", x, x.tide(0, true, 1, 20), bits(1.0));
        tells("right up to it", x, x.tide(0, true, 1, 12), bits(0.0));
        tells("just below it", x, x.tide(0, true, 1, 19), bits(2.375));
        tells("around below 0", x, x.tide(0, true, 2, -20), bits(-2.0));
        tells("right down to it", x, x.tide(0, true, 2, -4), bits(-0.0));
        tells("no eighths go around, too", x, x.tide(0, true, 3, 0), bits(2.0));
        has("ITEM 0 stays", x, 0, 2.5);
        TideGauges y = narrow(-2.5f, 1.0f);
        tells("around one below 0", y, y.tide(0, false, 1, 20), bits(1.0f));
        tells("down around one below 0", y, y.tide(0, false, 1, -32), bits(-0.5f));
        tells("right down to it", y, y.tide(0, false, 1, -16), bits(-0.0f));
    }

    private static void tidesOfItemZeroGoAroundItAsItWas() {
        TideGauges x = wide(2.5, 9.0);
        tells("ITEM 0 by itself as it was", x, x.tide(0, true, 0, 4), bits(0.5));
        has("it is that now", x, 0, 0.5);
        tells("less than it was", x, x.tide(0, true, 0, -2), bits(0.25));
        tells("once more the same", x, x.tide(0, true, 0, 2), bits(0.0));
        tells("as it was 0", x, x.tide(0, true, 0, 2), bits(0.25));
        has("the other ITEM stays", x, 1, 9.0);
        TideGauges y = narrow(-2.5f);
        tells("a float by itself as it was", y, y.tide(0, false, 0, -4), bits(-0.5f));
        has("it is that now", y, 0, -0.5f);
        TideGauges z = wide(1.0);
        tells("down to 0.0, no REST by what it is", z, z.tide(0, true, 0, -8), bits(0.0));
        TideGauges w = wide(1.0);
        tells("as often as before", w, w.tide(0, true, 0, 8), bits(0.0));
    }

    private static void tidesWithoutPeriod() {
        for (double none : new double[] {0.0, -0.0}) {
            TideGauges x = wide(none, 7.0);
            tells("no REST by " + none, x, x.tide(0, true, 1, 8), bits(8.0));
            has("ITEM 0 stays", x, 0, none);
            TideGauges y = narrow((float) none, 7.0f);
            tells("no REST of floats by " + none, y, y.tide(0, false, 1, 8), bits(8.0f));
            has("ITEM 0 stays", y, 0, (float) none);
            TideGauges z = wide(none);
            tells("ITEM 0 itself", z, z.tide(0, true, 0, 8), bits(1.0));
        }
        TideGauges x = wide(LEAST, 7.0);
        tells("the least period is not 0", x, x.tide(0, true, 1, 8), bits(0.0));
        TideGauges y = narrow(-LEAST32, 7.0f);
        tells("the least float is not 0", y, y.tide(0, false, 1, 8), bits(0.0f));
    }

    private static void tidesOfEndlessSums() {
        for (double sign : new double[] {1.0, -1.0}) {
            TideGauges x = wide(2.5, sign * INF);
            tells("an endless sum", x, x.tide(0, true, 1, 8), bits(sign * INF));
            has("it is kept", x, 1, sign * INF);
            TideGauges y = narrow(2.5f, (float) (sign * INF));
            tells("an endless sum of floats", y, y.tide(0, false, 1, -8), bits((float) (sign * INF)));
            has("it is kept", y, 1, (float) (sign * INF));
            TideGauges z = wide(sign * INF);
            tells("an endless ITEM 0", z, z.tide(0, true, 0, -8), bits(sign * INF));
        }
    }

    private static void tidesAroundAnEndlessPeriod() {
        for (double sign : new double[] {1.0, -1.0}) {
            TideGauges x = wide(sign * INF, 1.0);
            tells("the sum itself", x, x.tide(0, true, 1, 8), bits(2.0));
            tells("the sum itself below 0", x, x.tide(0, true, 1, -32), bits(-2.0));
            has("the period stays", x, 0, sign * INF);
            TideGauges y = narrow((float) (sign * INF), 1.0f);
            tells("the sum of floats itself", y, y.tide(0, false, 1, 8), bits(2.0f));
        }
    }

    private static void tidesAreKeptAndTold() {
        TideGauges x = wide(2.5, 1.0, 1.0);
        x.share(0, 4);
        tells("it is TOLD", x, x.tide(4, true, 1, 10), bits(2.25));
        has("and kept, in each PLACE of the ROW", x, 1, 2.25);
        has("the ITEM behind stays", x, 2, 1.0);
        Due.is("no such ITEM", OUTSIDE, x.tide(0, true, 3, 8));
        Due.is("the latest stays TOLD", bits(1.0), x.told());
    }

    // ---- Promise 10: "The sum of n ITEMS from one on, in order, beginning with 0.0, in their width, is TOLD: 1."

    private static void sumsOfNoItems() {
        for (boolean wide : WIDTHS) {
            TideGauges x = new TideGauges();
            x.row(0, wide, 2);
            x.row(1, wide, 0);
            x.put(0, wide, 0, 5L);
            x.put(0, wide, 1, 6L);
            // Of no ITEMS none is missing, wherever they begin.
            for (int from : new int[] {0, 1, 2, 3, -1, Integer.MIN_VALUE, Integer.MAX_VALUE}) {
                x.get(0, wide, 0);
                tells("of 0 ITEMS from " + from, x, x.sum(0, wide, from, 0), 0L);
            }
            x.get(0, wide, 0);
            tells("of an empty ROW", x, x.sum(1, wide, 0, 0), 0L);
            Due.is("CAST of 0 ITEMS", CAST, x.sum(0, !wide, 0, 0));
            Due.is("MISSING of 0 ITEMS", MISSING, x.sum(2, wide, 0, 0));
            Due.is("n below 0", BAD, x.sum(0, wide, 0, -1));
        }
    }

    private static void sumsGoInOrder() {
        TideGauges x = wide(1e30, 1.0, -1e30, 1.0);
        tells("the small one is lost", x, x.sum(0, true, 0, 3), bits(0.0));
        tells("a later one is not", x, x.sum(0, true, 0, 4), bits(1.0));
        tells("from another on", x, x.sum(0, true, 1, 3), bits(-1e30));
        TideGauges y = wide(0.1, 0.2, 0.3);
        tells("from the first", y, y.sum(0, true, 0, 3), bits(0.6000000000000001));
        TideGauges z = narrow(1e30f, 1.0f, -1e30f, 1.0f);
        tells("the small float is lost", z, z.sum(0, false, 0, 3), bits(0.0f));
        tells("a later float is not", z, z.sum(0, false, 0, 4), bits(1.0f));
    }

    private static void sumsBeginWithZero() {
        TideGauges x = wide(-0.0, -0.0);
        tells("0.0 and -0.0", x, x.sum(0, true, 0, 1), bits(0.0));
        tells("0.0 and twice -0.0", x, x.sum(0, true, 0, 2), bits(0.0));
        TideGauges y = narrow(-0.0f, -0.0f);
        tells("0.0 and -0.0 of floats", y, y.sum(0, false, 0, 2), bits(0.0f));
    }

    private static void sumsAreOfTheWidth() {
        TideGauges x = wide(16777216.0, 1.0, 1.0);
        tells("doubles", x, x.sum(0, true, 0, 3), bits(16777218.0));
        TideGauges y = narrow(16777216.0f, 1.0f, 1.0f);
        tells("floats", y, y.sum(0, false, 0, 3), bits(16777216.0f));
        TideGauges z = narrow(MOST32, MOST32, -MOST32);
        tells("floats that run over on the way", z, z.sum(0, false, 0, 3), bits(INF32));
    }

    private static void sumsReachBothEnds() {
        double[] items = {1.0, 2.0, 4.0, 8.0, 16.0, 32.0, 64.0, 128.0, 256.0, 512.0, 1024.0, 2048.0};
        TideGauges x = wide(items);
        tells("all twelve", x, x.sum(0, true, 0, 12), bits(4095.0));
        for (int from = 0; from < 12; from++) {
            tells("one from " + from, x, x.sum(0, true, from, 1), bits(items[from]));
            tells("to the end from " + from, x, x.sum(0, true, from, 12 - from), bits(4096.0 - items[from]));
            Due.is("one more from " + from, OUTSIDE, x.sum(0, true, from, 13 - from));
        }
        has("the first stays", x, 0, 1.0);
        has("the last stays", x, 11, 2048.0);
    }

    private static void sumsMeetItemsThatAreNot() {
        TideGauges x = wide(1.0, 2.0);
        for (int from : new int[] {-1, 2, 12, Integer.MIN_VALUE, Integer.MAX_VALUE}) {
            Due.is("from " + from, OUTSIDE, x.sum(0, true, from, 1));
            Due.is("many from " + from, OUTSIDE, x.sum(0, true, from, Integer.MAX_VALUE));
        }
        Due.is("from one ahead", OUTSIDE, x.sum(0, true, -1, 2));
        Due.is("one too many", OUTSIDE, x.sum(0, true, 0, 3));
        Due.is("nothing told", 0, x.told());
    }

    // ---- "4 (two ENDLESS ones of unlike signs: where they meet, ahead of later ITEMS)"

    private static void sumsMeetEndlessOnes() {
        TideGauges x = wide(INF, 1.0, INF, -INF, -INF);
        tells("like ones", x, x.sum(0, true, 0, 3), bits(INF));
        tells("like ones below 0", x, x.sum(0, true, 3, 2), bits(-INF));
        Due.is("unlike ones", NO_NUMBER, x.sum(0, true, 0, 4));
        Due.is("side by side", NO_NUMBER, x.sum(0, true, 2, 2));
        Due.is("ahead of ITEMS that are not", NO_NUMBER, x.sum(0, true, 2, 4));
        Due.is("ahead of many that are not", NO_NUMBER, x.sum(0, true, 0, Integer.MAX_VALUE));
        Due.is("an ITEM that is not, where none meet", OUTSIDE, x.sum(0, true, 3, 3));
        Due.is("one ahead that is not", OUTSIDE, x.sum(0, true, -1, 6));
        Due.is("the latest stays TOLD", bits(-INF), x.told());
        TideGauges y = narrow(-INF32, INF32, 1.0f);
        Due.is("unlike floats", NO_NUMBER, y.sum(0, false, 0, 2));
        Due.is("unlike floats, ahead of ITEMS that are not", NO_NUMBER, y.sum(0, false, 0, 4));
        tells("one endless float", y, y.sum(0, false, 1, 2), bits(INF32));
    }

    private static void sumsThatRunOver() {
        TideGauges x = wide(MOST, MOST, -MOST, -INF);
        tells("two of the most", x, x.sum(0, true, 0, 2), bits(INF));
        tells("stay endless", x, x.sum(0, true, 0, 3), bits(INF));
        Due.is("and meet an unlike one", NO_NUMBER, x.sum(0, true, 0, 4));
        tells("one of the most and less", x, x.sum(0, true, 1, 2), bits(0.0));
        TideGauges y = narrow(-MOST32, -MOST32, INF32);
        tells("two of the least floats", y, y.sum(0, false, 0, 2), bits(-INF32));
        Due.is("and meet an unlike one", NO_NUMBER, y.sum(0, false, 0, 3));
    }

    // ---- Promise 11: "A long as: how = 0 a float's BITS, 1 that float as a long, .."

    private static void roundedToFloats() {
        TideGauges x = new TideGauges();
        Due.is("0", 0L, x.round(0L, 0));
        Due.is("-1 as an int", 0xFFFFFFFFBF800000L, x.round(-1L, 0));
        Due.is("to the even one below", 0x4B800000L, x.round(16777217L, 0));
        Due.is("to the even one above", 0x4B800002L, x.round(16777219L, 0));
        Due.is("that as a long", 16777216L, x.round(16777217L, 1));
        Due.is("that as a long", 16777220L, x.round(16777219L, 1));
        Due.is("that as a long below 0", -16777216L, x.round(-16777217L, 1));
        Due.is("the most", 0x5F000000L, x.round(Long.MAX_VALUE, 0));
        Due.is("the most as a long", Long.MAX_VALUE, x.round(Long.MAX_VALUE, 1));
        Due.is("the least", 0xFFFFFFFFDF000000L, x.round(Long.MIN_VALUE, 0));
        Due.is("the least as a long", Long.MIN_VALUE, x.round(Long.MIN_VALUE, 1));
    }

    // ---- ".. 2 a double's BITS, 3 that double as a long, .."

    private static void roundedToDoubles() {
        TideGauges x = new TideGauges();
        Due.is("0", 0L, x.round(0L, 2));
        Due.is("-1", 0xBFF0000000000000L, x.round(-1L, 2));
        Due.is("to the even one below", 0x4340000000000000L, x.round(9007199254740993L, 2));
        Due.is("to the even one above", 0x4340000000000002L, x.round(9007199254740995L, 2));
        Due.is("that as a long", 9007199254740992L, x.round(9007199254740993L, 3));
        Due.is("that as a long", 9007199254740996L, x.round(9007199254740995L, 3));
        Due.is("that as a long below 0", -9007199254740992L, x.round(-9007199254740993L, 3));
        Due.is("the most", 0x43E0000000000000L, x.round(Long.MAX_VALUE, 2));
        Due.is("the most as a long", Long.MAX_VALUE, x.round(Long.MAX_VALUE, 3));
        Due.is("less than half below it", 9223372036854774784L, x.round(9223372036854775295L, 3));
        Due.is("the least", 0xC3E0000000000000L, x.round(Long.MIN_VALUE, 2));
        Due.is("the least as a long", Long.MIN_VALUE, x.round(Long.MIN_VALUE, 3));
    }

    // ---- ".. 4 the double as a float's BITS, .."

    private static void roundedTwice() {
        TideGauges x = new TideGauges();
        Due.is("once", 0x5E800001L, x.round(0x4000004000000001L, 0));
        Due.is("twice", 0x5E800000L, x.round(0x4000004000000001L, 4));
        Due.is("once below 0", 0xFFFFFFFFDE800001L, x.round(-0x4000004000000001L, 0));
        Due.is("twice below 0", 0xFFFFFFFFDE800000L, x.round(-0x4000004000000001L, 4));
        Due.is("the most", 0x5F000000L, x.round(Long.MAX_VALUE, 4));
        Due.is("0", 0L, x.round(0L, 4));
    }

    // ---- ".. 5 the float as an int; .."

    private static void roundedToInts() {
        TideGauges x = new TideGauges();
        Due.is("rounded", 16777216L, x.round(16777217L, 5));
        Due.is("rounded below 0", -16777220L, x.round(-16777219L, 5));
        Due.is("within", 2147483520L, x.round(2147483583L, 5));
        Due.is("rounded beyond", 2147483647L, x.round(2147483584L, 5));
        Due.is("beyond", 2147483647L, x.round(2147483648L, 5));
        Due.is("far beyond", 2147483647L, x.round(Long.MAX_VALUE, 5));
        Due.is("the least", -2147483648L, x.round(-2147483648L, 5));
        Due.is("beyond below 0", -2147483648L, x.round(-4294967297L, 5));
        Due.is("far beyond below 0", -2147483648L, x.round(Long.MIN_VALUE, 5));
    }

    // ---- ".. another how: the long."

    private static void roundedByAnotherHow() {
        TideGauges x = new TideGauges();
        for (int how : new int[] {-1, 6, 7, Integer.MIN_VALUE, Integer.MAX_VALUE}) {
            for (long v : new long[] {0L, -1L, 9007199254740993L, Long.MAX_VALUE, Long.MIN_VALUE}) {
                Due.is("how " + how, v, x.round(v, how));
            }
        }
        Due.is("nothing told", 0, x.told());
    }

    // ---- Promise 12: "A GAUGE in its PLACE: 1."

    private static void gaugesReplaceEarlierOnes() {
        TideGauges x = gauge(STEP, 3.0);
        Due.is("another SPAN", 1, x.gauge(0, STEP, bits(4.0)));
        tells("it steps by that", x, x.read(0, bits(7.0), false), bits(4.0));
        Due.is("another KIND", 1, x.gauge(0, WRAP, bits(4.0)));
        tells("it wraps", x, x.read(0, bits(7.0), false), bits(3.0));
        Due.is("the KIND is counted", WRAP, x.count(11));
        Due.is("one PLACE has one", 1, x.count(1));
        Due.is("another GAUGE is BAD", BAD, x.gauge(0, LONG, bits(-0.0)));
        tells("it still wraps", x, x.read(0, bits(7.0), false), bits(3.0));
    }

    // ---- Promise 13: "What the GAUGE of a PLACE TELLS of a double, as a double, or (single) as a float: 1."

    private static void readingsAreToldAsDoublesOrFloats() {
        double[] want = {-7.5, 1.75, -8.0};
        for (int kind = 0; kind < 3; kind++) {
            reads(kind, 2.5, -8.25, want[kind]);
            readsSingle(kind, 2.5, -8.25, (float) want[kind]);
            TideGauges x = gauge(kind, 2.5);
            Due.is("no GAUGE", MISSING, x.read(1, bits(1.0), false));
            Due.is("no GAUGE, ahead of NO NUMBER", MISSING, x.read(1, bits(INF), true));
            Due.is("none", BAD, x.read(0, bits(Double.NaN), true));
            Due.is("none, ahead of no GAUGE", BAD, x.read(1, bits(Double.NaN), false));
            Due.is("nothing told", 0, x.told());
            x.read(0, bits(-8.25), false);
            x.read(0, bits(-8.25), false);
            Due.is("again the same", bits(want[kind]), x.told());
        }
    }

    // ---- Promise 14: "A RACK for a KIND, in place of an earlier one, its hooks bare: 1."

    private static void racksReplaceEarlierOnes() {
        for (int rack = 0; rack < 3; rack++) {
            for (int kind = 0; kind < 3; kind++) {
                TideGauges x = gauge(STEP, 2.0);
                for (int each = 0; each < 3; each++) {
                    x.rack(each, STEP);
                    for (int i = 0; i < 4; i++) {
                        x.hang(each, i, 0);
                    }
                }
                Due.is("a RACK anew", 1, x.rack(rack, kind));
                for (int i = 0; i < 4; i++) {
                    Due.is("its hook " + i + " is bare", 0, x.take(rack, i, STEP, 1));
                    Due.is("other hooks are not", 1, x.take((rack + 1) % 3, i, STEP, 2));
                    Due.is("other hooks are not", 1, x.take((rack + 2) % 3, i, STEP, 2));
                }
                Due.is("it is for the new KIND", kind == STEP ? 1 : STORE, x.hang(rack, 0, 0));
                Due.is("as many RACKS", 3, x.count(2));
            }
        }
    }

    // ---- Promise 15: "Hook i of a RACK gets the GAUGE of a PLACE, or none: 1."

    private static void hangingLeavesTheGauge() {
        TideGauges x = gauge(WRAP, 2.0);
        x.rack(1, STEP);
        for (int i = 0; i < 4; i++) {
            Due.is("one GAUGE on hook " + i, 1, x.hang(1, i, 0));
        }
        Due.is("and still in its PLACE", WRAP, x.count(11));
        tells("it still wraps", x, x.read(0, bits(5.0), false), bits(1.0));
        for (int i = 0; i < 4; i++) {
            Due.is("a WRAP on hook " + i, 1, x.take(1, i, WRAP, i + 1));
        }
        Due.is("five GAUGES now", 5, x.count(1));
    }

    private static void hangingNoneBaresTheHook() {
        TideGauges x = gauge(LONG, 2.0);
        for (int rack = 0; rack < 3; rack++) {
            x.rack(rack, rack);
            Due.is("none on a bare hook", 1, x.hang(rack, 3, 5));
        }
        x.hang(2, 0, 0);
        x.hang(2, 1, 0);
        Due.is("none over a GAUGE", 1, x.hang(2, 0, 5));
        Due.is("the hook is bare", 0, x.take(2, 0, LONG, 4));
        Due.is("the one beside it is not", 1, x.take(2, 1, LONG, 4));
        Due.is("none on no hook", OUTSIDE, x.hang(2, 4, 5));
        Due.is("a refused one", OUTSIDE, x.hang(2, -1, 0));
    }

    private static void hungGaugesStayAsTheyWere() {
        TideGauges x = gauge(STEP, 2.0);
        x.rack(0, STEP);
        x.hang(0, 2, 0);
        x.gauge(0, LONG, bits(5.0));
        Due.is("another one does not fit", STORE, x.hang(0, 2, 0));
        Due.is("the hook has the earlier one", 1, x.take(0, 2, STEP, 3));
        tells("with its SPAN", x, x.read(3, bits(7.5), false), bits(6.0));
        x.gauge(0, WRAP, bits(5.0));
        Due.is("one that fits", 1, x.hang(0, 2, 0));
        Due.is("is there instead", 1, x.take(0, 2, WRAP, 3));
        tells("with its SPAN", x, x.read(3, bits(7.5), false), bits(2.5));
    }

    // ---- Promise 16: "A PLACE gets what is on hook i of a RACK, taken as one of a KIND (STEP: WRAPS, too; none is of
    // ---- all): 1, 0 (none)."

    private static void takingLeavesTheHook() {
        TideGauges x = gauge(STEP, 2.0);
        x.rack(0, STEP);
        x.hang(0, 1, 0);
        for (int place = 1; place < 6; place++) {
            Due.is("take into PLACE " + place, 1, x.take(0, 1, STEP, place));
            tells("it is there", x, x.read(place, bits(7.5), false), bits(6.0));
        }
        x.gauge(5, LONG, bits(1.0));
        Due.is("over another one", 1, x.take(0, 1, STEP, 5));
        Due.is("it is there", STEP, x.count(16));
        Due.is("the hook still has it", 1, x.take(0, 1, STEP, 0));
    }

    private static void takingNoneEmptiesThePlace() {
        for (int rack = 0; rack < 3; rack++) {
            for (int kind = 0; kind < 3; kind++) {
                TideGauges x = gauge(LONG, 2.0);
                x.gauge(1, LONG, bits(2.0));
                x.rack(0, rack);
                Due.is("none is of KIND " + kind, 0, x.take(0, 3, kind, 0));
                Due.is("the PLACE has none", MISSING, x.read(0, 0L, false));
                Due.is("the other PLACE has one", 1, x.count(1));
                Due.is("none over none", 0, x.take(0, 3, kind, 0));
            }
        }
    }

    private static void takingIsOfAKind() {
        int[][] answers = {{1, CAST, CAST}, {1, 1, CAST}, {CAST, CAST, 1}};
        for (int kind = 0; kind < 3; kind++) {
            for (int as = 0; as < 3; as++) {
                TideGauges x = gauge(kind, 2.0);
                x.gauge(5, LONG - kind, bits(9.0));
                x.rack(2, kind);
                x.hang(2, 3, 0);
                Due.is(kind + " taken as " + as, answers[kind][as], x.take(2, 3, as, 5));
                Due.is("what is in the PLACE", answers[kind][as] == 1 ? kind : LONG - kind, x.count(16));
            }
        }
        TideGauges x = gauge(WRAP, 2.0);
        x.rack(0, STEP);
        x.hang(0, 0, 0);
        Due.is("a WRAP on a RACK of STEPS as a WRAP", 1, x.take(0, 0, WRAP, 1));
        Due.is("and as a STEP", 1, x.take(0, 0, STEP, 2));
        tells("is still a WRAP", x, x.read(2, bits(-0.5), false), bits(1.5));
        Due.is("counted so", WRAP, x.count(13));
    }

    // ---- Promise 17: "What was TOLD latest (0 at first): BITS, or the whole number."

    private static void toldIsZeroAtFirst() {
        TideGauges x = new TideGauges();
        Due.is("at first", 0, x.told());
        x.row(0, true, 1);
        x.put(0, true, 0, bits(7.0));
        Due.is("as long as nothing is TOLD", 0, x.told());
    }

    private static void toldIsTheLatest() {
        TideGauges x = wide(-1.5);
        x.row(1, false, 1);
        x.put(1, false, 0, bits(-2.5f));
        x.gauge(0, STEP, bits(1.0));
        tells("get: BITS of a double", x, x.get(0, true, 0), 0xBFF8000000000000L);
        tells("get: BITS of a float as an int", x, x.get(1, false, 0), 0xFFFFFFFFC0200000L);
        tells("turn: the whole number", x, x.turn(0, true, 0, 2), 65535L);
        tells("turn: below 0", x, x.turn(1, false, 0, 0), -2L);
        tells("sum", x, x.sum(0, true, 0, 1), 0xBFF8000000000000L);
        tells("rest", x, x.rest(1, false, 0, 0), 0xFFFFFFFF80000000L);
        tells("tide", x, x.tide(0, true, 0, 4), 0xBFF0000000000000L);
        tells("read", x, x.read(0, bits(2.5), false), 0x4000000000000000L);
        tells("read, single", x, x.read(0, bits(-2.5), true), 0xFFFFFFFFC0000000L);
        Due.is("told again", 0xFFFFFFFFC0000000L, x.told());
    }

    private static void callsThatTellNothing() {
        TideGauges x = wide(-1.5);
        x.get(0, true, 0);
        long latest = x.told();
        Due.is("row", 1, x.row(1, true, 1));
        Due.is("told after row", latest, x.told());
        Due.is("share", 1, x.share(1, 2));
        Due.is("told after share", latest, x.told());
        Due.is("clear", 1, x.clear(2));
        Due.is("told after clear", latest, x.told());
        Due.is("put", 1, x.put(1, true, 0, 99L));
        Due.is("told after put", latest, x.told());
        for (int how = -1; how < 7; how++) {
            x.round(99L, how);
            Due.is("told after round " + how, latest, x.told());
        }
        Due.is("gauge", 1, x.gauge(0, STEP, bits(1.0)));
        Due.is("told after gauge", latest, x.told());
        Due.is("rack", 1, x.rack(0, STEP));
        Due.is("told after rack", latest, x.told());
        Due.is("hang", 1, x.hang(0, 0, 0));
        Due.is("told after hang", latest, x.told());
        Due.is("take", 1, x.take(0, 0, STEP, 1));
        Due.is("told after take", latest, x.told());
        Due.is("count", 2, x.count(1));
        Due.is("told after count", latest, x.told());
    }

    // ---- Promise 18: "What = 0 ROWS' PLACES with a ROW, 1 GAUGES' with a GAUGE, 2 RACKS that there are"

    private static void countsOfPlaces() {
        TideGauges x = new TideGauges();
        for (int place = 0; place < 8; place++) {
            x.row(place, true, 0);
            Due.is("PLACES with a ROW", place + 1, x.count(0));
        }
        for (int place = 0; place < 6; place++) {
            x.gauge(place, LONG, bits(1.0));
            Due.is("PLACES with a GAUGE", place + 1, x.count(1));
        }
        for (int rack = 0; rack < 3; rack++) {
            x.rack(rack, LONG);
            x.rack(rack, LONG);
            Due.is("RACKS", rack + 1, x.count(2));
        }
        x.hang(0, 0, 0);
        Due.is("what hangs is not counted", 6, x.count(1));
        x.take(0, 1, LONG, 0);
        Due.is("one PLACE less", 5, x.count(1));
        for (int place = 0; place < 8; place++) {
            x.clear(place);
            Due.is("one PLACE less", 7 - place, x.count(0));
        }
    }

    // ---- "3 and k: how many ITEMS the ROW of PLACE k has (k 0 .. 7; BAD without one)"

    private static void countsOfItems() {
        TideGauges x = new TideGauges();
        for (int place = 0; place < 8; place++) {
            Due.is("BAD without one", BAD, x.count(3 + place));
            x.row(place, place % 2 == 0, place + 5);
            Due.is("ITEMS", place + 5, x.count(3 + place));
        }
        x.row(7, false, 0);
        Due.is("no ITEMS", 0, x.count(10));
        x.clear(7);
        Due.is("BAD without one", BAD, x.count(10));
        x.share(0, 7);
        Due.is("ITEMS of a shared one", 5, x.count(10));
        for (int k = 8; k < 14; k++) {
            Due.is("a ROW is no GAUGE", BAD, x.count(3 + k));
        }
    }

    // ---- "11 and k: the KIND of the GAUGE of PLACE k (k 0 .. 5; BAD). BAD."

    private static void countsOfKinds() {
        TideGauges x = new TideGauges();
        for (int place = 0; place < 6; place++) {
            Due.is("BAD without one", BAD, x.count(11 + place));
            x.gauge(place, (place + 1) % 3, bits(1.0));
            Due.is("KIND", (place + 1) % 3, x.count(11 + place));
        }
        x.rack(0, LONG);
        x.take(0, 0, LONG, 3);
        Due.is("BAD without one any more", BAD, x.count(14));
        for (int k = 0; k < 8; k++) {
            Due.is("a GAUGE is no ROW", BAD, x.count(3 + k));
        }
        for (int what : new int[] {-1, 17, 18, 19, 25, Integer.MIN_VALUE, Integer.MAX_VALUE}) {
            Due.is("no such what", BAD, x.count(what));
        }
    }
}
