/** Promise 14: box. */
public final class Promise14BoxTest implements Names {
    private static final long FLOAT_NAN = 0x7fc00000L;
    private static final long DOUBLE_NAN = 0x7ff8000000000000L;

    public static void main(String[] args) throws ReflectiveOperationException {
        Cases.run(Promise14BoxTest.class);
    }

    private static void keeps(Run run, int object, int box, long bits, long due) {
        run.box(box, bits).is(object);
        run.typeOf(object).is(box);
        run.unboxed(object, box).is(due);
    }

    @Says("A BOX (8 .. 15) with BITS: its number.")
    static void numbersFollowTheLastObject(Run run) {
        run.box(INT_BOX, 7).is(0);
        run.make(NULL).is(1);
        run.box(INT_BOX, 7).is(2);
        run.count(1).is(3);
        run.count(0).is(23);
    }

    @Says("BITS: of a boolean 1, 0")
    static void bitsOfABoolean(Run run) {
        keeps(run, 0, BOOLEAN_BOX, 0, 0);
        keeps(run, 1, BOOLEAN_BOX, 1, 1);
        run.box(BOOLEAN_BOX, -1).refused(OUTSIDE);
        run.box(BOOLEAN_BOX, 2).refused(OUTSIDE);
    }

    @Says("OUTSIDE: no BOX, or they are no such BITS.")
    static void justBitsAndJustNot(Run run) {
        int next = 0;
        for (int box : new int[] {BOOLEAN_BOX, CHAR_BOX, BYTE_BOX, SHORT_BOX, INT_BOX}) {
            long least = Names.ends(box - 8)[0];
            long greatest = Names.ends(box - 8)[1];
            keeps(run, next, box, least, least);
            keeps(run, next + 1, box, greatest, greatest);
            run.box(box, least - 1).refused(OUTSIDE);
            run.box(box, greatest + 1).refused(OUTSIDE);
            run.box(box, Long.MIN_VALUE).refused(OUTSIDE);
            run.box(box, Long.MAX_VALUE).refused(OUTSIDE);
            // Their lowest bits alone would be the BITS of 1 and 0.
            run.box(box, 4294967297L).refused(OUTSIDE);
            run.box(box, 1L << 32).refused(OUTSIDE);
            next += 2;
        }
        keeps(run, next, LONG_BOX, Long.MIN_VALUE, Long.MIN_VALUE);
        keeps(run, next + 1, LONG_BOX, Long.MAX_VALUE, Long.MAX_VALUE);
    }

    @Says("of float 32 of them, as an int, of double 64")
    static void bitsOfFloatAndDouble(Run run) {
        keeps(run, 0, FLOAT_BOX, -2147483648L, -2147483648L);
        keeps(run, 1, FLOAT_BOX, 0x7f800000L, 0x7f800000L);
        keeps(run, 2, FLOAT_BOX, 0xff800000, 0xff800000);
        keeps(run, 3, FLOAT_BOX, 1, 1);
        keeps(run, 4, FLOAT_BOX, 0x007fffffL, 0x007fffffL);
        keeps(run, 5, FLOAT_BOX, 0x00800000L, 0x00800000L);
        keeps(run, 6, DOUBLE_BOX, Long.MIN_VALUE, Long.MIN_VALUE);
        keeps(run, 7, DOUBLE_BOX, 0x7ff0000000000000L, 0x7ff0000000000000L);
        keeps(run, 8, DOUBLE_BOX, 0xfff0000000000000L, 0xfff0000000000000L);
        keeps(run, 9, DOUBLE_BOX, 1, 1);
        keeps(run, 10, DOUBLE_BOX, 0x000fffffffffffffL, 0x000fffffffffffffL);
        keeps(run, 11, DOUBLE_BOX, 0x3ff8000000000001L, 0x3ff8000000000001L);
        run.box(FLOAT_BOX, -2147483649L).refused(OUTSIDE);
        run.box(FLOAT_BOX, 2147483648L).refused(OUTSIDE);
        run.box(FLOAT_BOX, 0xffffffffL).refused(OUTSIDE);
        run.box(FLOAT_BOX, Long.MIN_VALUE).refused(OUTSIDE);
    }

    @Says("of any NaN 0x7fc00000, 0x7ff8000000000000 (other NaNs may come in)")
    static void anyNanIsKeptAsTheOne(Run run) {
        int next = 0;
        for (long nan : new long[] {FLOAT_NAN, 0x7f800001L, 0x7fffffffL, 0xff800001, -1}) {
            keeps(run, next, FLOAT_BOX, nan, FLOAT_NAN);
            next++;
        }
        for (long nan : new long[] {DOUBLE_NAN, 0x7ff0000000000001L, Long.MAX_VALUE,
            0xfff0000000000001L, -1}) {
            keeps(run, next, DOUBLE_BOX, nan, DOUBLE_NAN);
            next++;
        }
    }

    @Says("BAD (-1) there is no such TYPE, OBJECT, context")
    static void ofNoType(Run run) {
        run.newClass(NONE, NONE, false).is(23);
        run.box(-1, 1).refused(BAD);
        for (int t : Names.noneOf(24)) {
            run.box(t, 1).refused(BAD);
        }
    }

    @Says("OUTSIDE: no BOX, or they are no such BITS.")
    static void noBox(Run run) {
        run.newClass(NONE, NONE, false).is(23);
        run.array(INT_BOX).is(24);
        for (int t = BOOLEAN; t <= DOUBLE; t++) {
            run.box(t, 1).refused(OUTSIDE);
        }
        for (int t = OBJECT; t <= 24; t++) {
            run.box(t, 1).refused(OUTSIDE);
        }
    }

    @Says("OBJECTS (60 at most) are of a TYPE that they keep")
    static void the60thObjectIsTheLast(Run run) {
        for (int object = 0; object < MOST_OBJECTS; object++) {
            run.box(BYTE_BOX, object).is(object);
        }
        run.box(BYTE_BOX, 60).refused(FULL);
        run.box(DOUBLE_BOX, -1).refused(FULL);
        run.count(1).is(60);
        for (int object = 0; object < MOST_OBJECTS; object++) {
            run.unboxed(object, BYTE_BOX).is(object);
        }
        run.typeOf(60).refused(BAD);
    }

    @Says("of several the first one here: BAD (-1)")
    static void badIsAheadOfOutside(Run run) {
        run.box(23, Long.MAX_VALUE).refused(BAD);
        run.box(-1, Long.MIN_VALUE).refused(BAD);
    }

    @Says("of several the first one here: BAD (-1)")
    static void badIsAheadOfFull(Run run) {
        run.fillObjects(0);
        run.box(23, 1).refused(BAD);
        run.box(-1, Long.MAX_VALUE).refused(BAD);
    }

    @Says("OUTSIDE (-2) as told; FULL (-3)")
    static void outsideIsAheadOfFull(Run run) {
        run.fillObjects(0);
        run.box(INT, 1).refused(OUTSIDE);
        run.box(OBJECT, 1).refused(OUTSIDE);
        run.box(BYTE_BOX, 128).refused(OUTSIDE);
        run.box(BOOLEAN_BOX, 2).refused(OUTSIDE);
    }
}
