/** Promise 10: turned. */
public final class Promise10TurnedTest implements Names {
    private static final long FLOAT_NAN = 0x7fc00000L;
    private static final long DOUBLE_NAN = 0x7ff8000000000000L;
    private static final float FLOAT_INFINITY = Float.POSITIVE_INFINITY;
    private static final double DOUBLE_INFINITY = Double.POSITIVE_INFINITY;
    private static final long LEAST_INT = -2147483648L, GREATEST_INT = 2147483647L;

    public static void main(String[] args) throws ReflectiveOperationException {
        Cases.run(Promise10TurnedTest.class);
    }

    private static long bits(float value) {
        return Float.floatToRawIntBits(value);
    }

    private static long bits(double value) {
        return Double.doubleToRawLongBits(value);
    }

    private static void toFloat(Run run, long whole, float due) {
        run.turned(LONG, whole, FLOAT).is(bits(due));
        run.turned(LONG, -whole, FLOAT).is(bits(-due));
    }

    private static void toDouble(Run run, long whole, double due) {
        run.turned(LONG, whole, DOUBLE).is(bits(due));
        run.turned(LONG, -whole, DOUBLE).is(bits(-due));
    }

    private static void toFloat(Run run, double value, float due) {
        run.turned(DOUBLE, bits(value), FLOAT).is(bits(due));
        run.turned(DOUBLE, bits(-value), FLOAT).is(bits(-due));
    }

    private static void toWhole(Run run, double value, int to, long due) {
        run.turned(DOUBLE, bits(value), to).is(due);
    }

    private static void toWhole(Run run, float value, int to, long due) {
        run.turned(FLOAT, bits(value), to).is(due);
    }

    @Says("perhaps to its own TYPE")
    static void toItsOwnType(Run run) {
        for (int t = CHAR; t <= LONG; t++) {
            run.turned(t, Names.ends(t)[0], t).is(Names.ends(t)[0]);
            run.turned(t, Names.ends(t)[1], t).is(Names.ends(t)[1]);
            run.turned(t, 1, t).is(1);
        }
        for (float value : new float[] {0f, -0f, 1.5f, -1.5f, Float.MIN_VALUE, Float.MIN_NORMAL,
            Float.MAX_VALUE, FLOAT_INFINITY, -FLOAT_INFINITY}) {
            run.turned(FLOAT, bits(value), FLOAT).is(bits(value));
        }
        for (double value : new double[] {0, -0.0, 1.5, -1.5, Double.MIN_VALUE, Double.MIN_NORMAL,
            Double.MAX_VALUE, DOUBLE_INFINITY, -DOUBLE_INFINITY}) {
            run.turned(DOUBLE, bits(value), DOUBLE).is(bits(value));
        }
    }

    @Says("(they may be as BAD and OUTSIDE, too)")
    static void answersThatLookLikeRefusals(Run run) {
        for (long like : new long[] {BAD, OUTSIDE, FULL}) {
            for (int from = BYTE; from <= LONG; from++) {
                for (int to = BYTE; to <= LONG; to++) {
                    run.turned(from, like, to).is(like);
                }
            }
            toWhole(run, (double) like, INT, like);
            toWhole(run, (float) like, LONG, like);
        }
        run.turned(CHAR, 65535, SHORT).is(-1);
    }

    @Says("to float, double the nearest (even)")
    static void wholeToFloatIsTheNearest(Run run) {
        toFloat(run, 1L << 24, 0x1p24f);
        toFloat(run, (1L << 25) + 1, 0x1p25f);
        toFloat(run, (1L << 25) + 3, 0x1.000002p25f);
        toFloat(run, (1L << 40) + (1L << 16) - 1, 0x1p40f);
        toFloat(run, (1L << 40) + (1L << 16) + 1, 0x1.000002p40f);
        toFloat(run, GREATEST_INT, 0x1p31f);
        toFloat(run, Long.MAX_VALUE, 0x1p63f);
        run.turned(LONG, Long.MIN_VALUE, FLOAT).is(bits(-0x1p63f));
    }

    @Says("to float, double the nearest (even)")
    static void wholeToFloatInTheMiddleIsTheEvenOne(Run run) {
        toFloat(run, (1L << 24) + 1, 0x1p24f);
        toFloat(run, (1L << 24) + 3, 0x1.000004p24f);
        toFloat(run, (1L << 25) - 1, 0x1p25f);
        toFloat(run, (1L << 40) + (1L << 16), 0x1p40f);
        toFloat(run, (1L << 40) + (3L << 16), 0x1.000004p40f);
        run.turned(INT, (1 << 24) + 1, FLOAT).is(bits(0x1p24f));
        run.turned(INT, -(1 << 24) - 3, FLOAT).is(bits(-0x1.000004p24f));
    }

    @Says("to float, double the nearest (even)")
    static void longToDoubleIsTheNearest(Run run) {
        toDouble(run, 1L << 53, 0x1p53);
        toDouble(run, (1L << 54) + 1, 0x1p54);
        toDouble(run, (1L << 54) + 3, 0x1.0000000000001p54);
        toDouble(run, Long.MAX_VALUE, 0x1p63);
        toDouble(run, Long.MAX_VALUE - 512, 0x1.fffffffffffffp62);
        run.turned(LONG, Long.MIN_VALUE, DOUBLE).is(bits(-0x1p63));
    }

    @Says("to float, double the nearest (even)")
    static void longToDoubleInTheMiddleIsTheEvenOne(Run run) {
        toDouble(run, (1L << 53) + 1, 0x1p53);
        toDouble(run, (1L << 53) + 3, 0x1.0000000000002p53);
        toDouble(run, (1L << 54) - 1, 0x1p54);
        toDouble(run, Long.MAX_VALUE - 511, 0x1p63);
    }

    @Says("to float, double the nearest (even)")
    static void doubleToFloatIsTheNearest(Run run) {
        toFloat(run, 0x1.000001p0, 0x1p0f);
        toFloat(run, 0x1.0000010000001p0, 0x1.000002p0f);
        toFloat(run, 0x1.000003p0, 0x1.000004p0f);
        toFloat(run, 0x1.0000030000001p0, 0x1.000004p0f);
        toFloat(run, 0x1.000002fffffffp0, 0x1.000002p0f);
        toFloat(run, 0x1.ffffffp0, 0x1p1f);
        toFloat(run, 0.1, 0x1.99999ap-4f);
    }

    @Says("to float, double the nearest (even)")
    static void doubleTooLargeForFloat(Run run) {
        toFloat(run, (double) Float.MAX_VALUE, Float.MAX_VALUE);
        toFloat(run, 0x1.fffffefffffffp127, Float.MAX_VALUE);
        toFloat(run, 0x1.ffffffp127, FLOAT_INFINITY);
        toFloat(run, 0x1p128, FLOAT_INFINITY);
        toFloat(run, Double.MAX_VALUE, FLOAT_INFINITY);
        toFloat(run, DOUBLE_INFINITY, FLOAT_INFINITY);
    }

    @Says("to float, double the nearest (even)")
    static void doubleTooSmallForFloat(Run run) {
        toFloat(run, 0x1p-149, Float.MIN_VALUE);
        toFloat(run, 0x1.0000000000001p-150, Float.MIN_VALUE);
        toFloat(run, 0x1p-150, 0f);
        toFloat(run, 0x1.8p-149, 0x1p-148f);
        toFloat(run, 0x1.7ffffffffffffp-149, 0x1p-149f);
        toFloat(run, 0x1.fffffffffffffp-127, Float.MIN_NORMAL);
        toFloat(run, 0x1.fffffcp-127, 0x1.fffffcp-127f);
        toFloat(run, 0x1p-151, 0f);
        toFloat(run, Double.MIN_NORMAL, 0f);
        toFloat(run, Double.MIN_VALUE, 0f);
        toFloat(run, 0.0, 0f);
    }

    @Says("to float, double the nearest (even)")
    static void floatToDoubleIsThatNumber(Run run) {
        float[] values = {0f, 1f, 0x1.99999ap-4f, Float.MIN_VALUE, 0x1.8p-148f, Float.MIN_NORMAL,
            Float.MAX_VALUE, FLOAT_INFINITY};
        double[] due = {0, 1, 0x1.99999ap-4, 0x1p-149, 0x1.8p-148, 0x1p-126, 0x1.fffffep127,
            DOUBLE_INFINITY};
        for (int i = 0; i < values.length; i++) {
            run.turned(FLOAT, bits(values[i]), DOUBLE).is(bits(due[i]));
            run.turned(FLOAT, bits(-values[i]), DOUBLE).is(bits(-due[i]));
        }
    }

    @Says("to float, double the nearest (even)")
    static void smallWholeOnesAreThatNumber(Run run) {
        for (int from = CHAR; from <= SHORT; from++) {
            for (long whole : Names.ends(from)) {
                run.turned(from, whole, FLOAT).is(bits((float) whole));
                run.turned(from, whole, DOUBLE).is(bits((double) whole));
            }
            run.turned(from, 0, FLOAT).is(0);
            run.turned(from, 0, DOUBLE).is(0);
        }
        run.turned(INT, GREATEST_INT, DOUBLE).is(bits(0x1.fffffffcp30));
        run.turned(INT, LEAST_INT, DOUBLE).is(bits(-0x1p31));
        run.turned(INT, LEAST_INT, FLOAT).is(bits(-0x1p31f));
    }

    @Says("from these to int, long the nearest end, if it is beyond")
    static void beyondTheEndsOfInt(Run run) {
        toWhole(run, 2147483647.0, INT, GREATEST_INT);
        toWhole(run, 2147483648.0, INT, GREATEST_INT);
        toWhole(run, 4294967296.0, INT, GREATEST_INT);
        toWhole(run, 0x1p63, INT, GREATEST_INT);
        toWhole(run, DOUBLE_INFINITY, INT, GREATEST_INT);
        toWhole(run, -2147483648.0, INT, LEAST_INT);
        toWhole(run, -2147483649.0, INT, LEAST_INT);
        toWhole(run, -0x1p64, INT, LEAST_INT);
        toWhole(run, -DOUBLE_INFINITY, INT, LEAST_INT);
        toWhole(run, 0x1p31f, INT, GREATEST_INT);
        toWhole(run, 0x1.fffffep30f, INT, 2147483520L);
        toWhole(run, -0x1p31f, INT, LEAST_INT);
        toWhole(run, Float.MAX_VALUE, INT, GREATEST_INT);
        toWhole(run, FLOAT_INFINITY, INT, GREATEST_INT);
        toWhole(run, -FLOAT_INFINITY, INT, LEAST_INT);
    }

    @Says("from these to int, long the nearest end, if it is beyond")
    static void beyondTheEndsOfLong(Run run) {
        toWhole(run, 0x1.fffffffffffffp62, LONG, Long.MAX_VALUE - 1023);
        toWhole(run, 0x1p63, LONG, Long.MAX_VALUE);
        toWhole(run, 0x1p64, LONG, Long.MAX_VALUE);
        toWhole(run, Double.MAX_VALUE, LONG, Long.MAX_VALUE);
        toWhole(run, DOUBLE_INFINITY, LONG, Long.MAX_VALUE);
        toWhole(run, -0x1.fffffffffffffp62, LONG, -Long.MAX_VALUE + 1023);
        toWhole(run, -0x1p63, LONG, Long.MIN_VALUE);
        toWhole(run, -0x1.0000000000001p63, LONG, Long.MIN_VALUE);
        toWhole(run, -Double.MAX_VALUE, LONG, Long.MIN_VALUE);
        toWhole(run, -DOUBLE_INFINITY, LONG, Long.MIN_VALUE);
        toWhole(run, 0x1p63f, LONG, Long.MAX_VALUE);
        toWhole(run, -0x1p63f, LONG, Long.MIN_VALUE);
        toWhole(run, 0x1.fffffep62f, LONG, Long.MAX_VALUE - (1L << 39) + 1);
        toWhole(run, FLOAT_INFINITY, LONG, Long.MAX_VALUE);
        toWhole(run, -FLOAT_INFINITY, LONG, Long.MIN_VALUE);
    }

    @Says("if it is beyond, cut")
    static void cutTowardsZero(Run run) {
        for (int to = INT; to <= LONG; to++) {
            toWhole(run, 0.5, to, 0);
            toWhole(run, -0.5, to, 0);
            toWhole(run, 0x1.fffffffffffffp-1, to, 0);
            toWhole(run, -0x1.fffffffffffffp-1, to, 0);
            toWhole(run, 1.5, to, 1);
            toWhole(run, -1.5, to, -1);
            toWhole(run, 2.9999, to, 2);
            toWhole(run, -2.9999, to, -2);
            toWhole(run, 2147483646.75, to, 2147483646L);
            toWhole(run, Double.MIN_VALUE, to, 0);
            toWhole(run, -Double.MIN_NORMAL, to, 0);
            toWhole(run, 0.0, to, 0);
            toWhole(run, -0.0, to, 0);
            toWhole(run, 7.75f, to, 7);
            toWhole(run, -7.75f, to, -7);
            toWhole(run, Float.MIN_VALUE, to, 0);
            toWhole(run, -0f, to, 0);
        }
        toWhole(run, 2147483647.75, INT, GREATEST_INT);
        toWhole(run, -2147483648.75, INT, LEAST_INT);
        toWhole(run, -2147483648.75, LONG, LEAST_INT);
    }

    @Says("NaN 0")
    static void nanIs0(Run run) {
        for (int to = CHAR; to <= LONG; to++) {
            for (long nan : new long[] {FLOAT_NAN, 0x7f800001L, 0x7fffffffL, 0xff800001, -1}) {
                run.turned(FLOAT, nan, to).is(0);
            }
            for (long nan : new long[] {DOUBLE_NAN, 0x7ff0000000000001L, Long.MAX_VALUE,
                0xfff0000000000001L, -1}) {
                run.turned(DOUBLE, nan, to).is(0);
            }
        }
    }

    @Says("of any NaN 0x7fc00000, 0x7ff8000000000000 (other NaNs may come in)")
    static void anyNanIsTheOne(Run run) {
        for (long nan : new long[] {FLOAT_NAN, 0x7f800001L, 0x7fc00001L, 0x7fffffffL,
            0xff800001, 0xffc00000, -1}) {
            run.turned(FLOAT, nan, FLOAT).is(FLOAT_NAN);
            run.turned(FLOAT, nan, DOUBLE).is(DOUBLE_NAN);
        }
        for (long nan : new long[] {DOUBLE_NAN, 0x7ff0000000000001L, 0x7ff8000000000001L,
            Long.MAX_VALUE, 0xfff0000000000001L, 0xfff8000000000000L, -1}) {
            run.turned(DOUBLE, nan, FLOAT).is(FLOAT_NAN);
            run.turned(DOUBLE, nan, DOUBLE).is(DOUBLE_NAN);
        }
    }

    @Says("to char, byte, short from int")
    static void toTheNarrowOnesByWayOfInt(Run run) {
        double[] values = {2147483647.0, 2147483648.0, 4294967296.0, 0x1p63, DOUBLE_INFINITY};
        for (double value : values) {
            toWhole(run, value, CHAR, 65535);
            toWhole(run, value, BYTE, -1);
            toWhole(run, value, SHORT, -1);
            toWhole(run, -value - 2, CHAR, 0);
            toWhole(run, -value - 2, BYTE, 0);
            toWhole(run, -value - 2, SHORT, 0);
        }
        toWhole(run, 65535.0, CHAR, 65535);
        toWhole(run, 65536.0, CHAR, 0);
        toWhole(run, -1.0, CHAR, 65535);
        toWhole(run, 128.0, BYTE, -128);
        toWhole(run, 300.7, BYTE, 44);
        toWhole(run, -129.0, BYTE, 127);
        toWhole(run, 32768.0, SHORT, -32768);
        toWhole(run, -32769.9, SHORT, 32767);
        toWhole(run, 0x1p31f, BYTE, -1);
        toWhole(run, -0x1p31f, SHORT, 0);
        toWhole(run, 65536f, CHAR, 0);
        toWhole(run, FLOAT_INFINITY, CHAR, 65535);
        toWhole(run, -FLOAT_INFINITY, CHAR, 0);
    }

    @Says("of whole ones the lowest bits")
    static void lowestBits(Run run) {
        run.turned(LONG, GREATEST_INT, INT).is(GREATEST_INT);
        run.turned(LONG, GREATEST_INT + 1, INT).is(LEAST_INT);
        run.turned(LONG, LEAST_INT - 1, INT).is(GREATEST_INT);
        run.turned(LONG, 1L << 32, INT).is(0);
        run.turned(LONG, Long.MIN_VALUE, INT).is(0);
        run.turned(LONG, Long.MAX_VALUE, INT).is(-1);
        for (int from = INT; from <= LONG; from++) {
            run.turned(from, 127, BYTE).is(127);
            run.turned(from, 128, BYTE).is(-128);
            run.turned(from, 255, BYTE).is(-1);
            run.turned(from, 256, BYTE).is(0);
            run.turned(from, -129, BYTE).is(127);
            run.turned(from, 32767, SHORT).is(32767);
            run.turned(from, 32768, SHORT).is(-32768);
            run.turned(from, 65535, SHORT).is(-1);
            run.turned(from, -32769, SHORT).is(32767);
            run.turned(from, 65535, CHAR).is(65535);
            run.turned(from, 65536, CHAR).is(0);
            run.turned(from, -1, CHAR).is(65535);
        }
    }

    @Says("of whole ones the lowest bits")
    static void lowestBitsAmongTheNarrowOnes(Run run) {
        run.turned(BYTE, -1, CHAR).is(65535);
        run.turned(BYTE, -128, CHAR).is(65408);
        run.turned(BYTE, 127, CHAR).is(127);
        run.turned(SHORT, -1, CHAR).is(65535);
        run.turned(SHORT, -32768, CHAR).is(32768);
        run.turned(SHORT, 128, BYTE).is(-128);
        run.turned(SHORT, -129, BYTE).is(127);
        run.turned(CHAR, 32768, SHORT).is(-32768);
        run.turned(CHAR, 65535, BYTE).is(-1);
        run.turned(CHAR, 128, BYTE).is(-128);
    }

    @Says("TURNED is a number by WIDER, NARROWER, MIXED as Java does")
    static void widerWholeOnesStayTheNumber(Run run) {
        for (int to = INT; to <= LONG; to++) {
            for (int from = CHAR; from <= INT; from++) {
                run.turned(from, Names.ends(from)[0], to).is(Names.ends(from)[0]);
                run.turned(from, Names.ends(from)[1], to).is(Names.ends(from)[1]);
            }
        }
        run.turned(BYTE, -128, SHORT).is(-128);
        run.turned(BYTE, 127, SHORT).is(127);
    }

    @Says("BAD (also: no NUMBERS)")
    static void oneIsNoType(Run run) {
        run.newClass(NONE, NONE, false).is(23);
        run.turned(-1, 1, INT).refused(BAD);
        run.turned(INT, 1, -1).refused(BAD);
        for (int t : Names.noneOf(24)) {
            run.turned(t, 1, INT).refused(BAD);
            run.turned(INT, 1, t).refused(BAD);
        }
    }

    @Says("BAD (also: no NUMBERS)")
    static void oneIsNoNumber(Run run) {
        run.newClass(NONE, NONE, false).is(23);
        run.turned(BOOLEAN, 1, INT).refused(BAD);
        run.turned(INT, 1, BOOLEAN).refused(BAD);
        run.turned(BOOLEAN, 1, BOOLEAN).refused(BAD);
        for (int t = BOOLEAN_BOX; t <= 23; t++) {
            run.turned(t, 1, INT).refused(BAD);
            run.turned(INT, 1, t).refused(BAD);
        }
    }

    @Says("OUTSIDE: they are no BITS of the first.")
    static void noBitsOfTheFirst(Run run) {
        for (int from : new int[] {CHAR, BYTE, SHORT, INT, FLOAT}) {
            long least = Names.ends(from)[0];
            long greatest = Names.ends(from)[1];
            for (int to = CHAR; to <= DOUBLE; to++) {
                run.turned(from, least - 1, to).refused(OUTSIDE);
                run.turned(from, greatest + 1, to).refused(OUTSIDE);
                run.turned(from, Long.MIN_VALUE, to).refused(OUTSIDE);
                run.turned(from, Long.MAX_VALUE, to).refused(OUTSIDE);
            }
        }
    }

    @Says("of float 32 of them, as an int, of double 64")
    static void bitsOfFloatAreAnInt(Run run) {
        run.turned(FLOAT, 0xffffffffL, INT).refused(OUTSIDE);
        run.turned(FLOAT, 0x80000000L, FLOAT).refused(OUTSIDE);
        run.turned(FLOAT, LEAST_INT, FLOAT).is(LEAST_INT);
        run.turned(FLOAT, LEAST_INT, DOUBLE).is(Long.MIN_VALUE);
        run.turned(DOUBLE, Long.MIN_VALUE, FLOAT).is(LEAST_INT);
        run.turned(FLOAT, GREATEST_INT, FLOAT).is(FLOAT_NAN);
        run.turned(DOUBLE, 0xffffffffL, INT).is(0);
    }

    @Says("of several the first one here: BAD (-1)")
    static void badIsAheadOfOutside(Run run) {
        run.turned(BYTE, 128, BOOLEAN).refused(BAD);
        run.turned(BYTE, 128, INT_BOX).refused(BAD);
        run.turned(BYTE, 128, 23).refused(BAD);
        run.turned(BOOLEAN, 2, INT).refused(BAD);
        run.turned(23, Long.MAX_VALUE, INT).refused(BAD);
    }

    @Says("Nothing is promised beyond the answers and state changes described above")
    static void askingChangesNothing(Run run) {
        run.turned(DOUBLE, -1, FLOAT).isAndChangesNothing(FLOAT_NAN);
        run.turned(INT, -1, CHAR).isAndChangesNothing(65535);
    }
}
