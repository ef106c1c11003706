/** Promise 8: given. */
public final class Promise08GivenTest implements Names {
    public static void main(String[] args) throws ReflectiveOperationException {
        Cases.run(Promise08GivenTest.class);
    }

    /** Holds a constant of one type against all known types: those told are allowed alone. */
    private static void isGivenAlone(Run run, long v, int from, int... allowed) {
        for (int to = BOOLEAN; to <= NULL; to++) {
            int due = 0;
            for (int one : allowed) {
                due = one == to ? 1 : due;
            }
            run.given(v, from, to).is(due);
        }
    }

    @Says("A CONSTANT of char, byte, short or int that is GIVEN to char, byte, short, if it is one"
            + " of their numbers")
    static void ofIntThatFitsAll(Run run) {
        isGivenAlone(run, 5, INT, CHAR, BYTE, SHORT, INT, LONG, FLOAT, DOUBLE, CHAR_BOX, BYTE_BOX,
                SHORT_BOX, INT_BOX, OBJECT, NUMBER, COMPARABLE, SERIALIZABLE);
    }

    @Says("is allowed, also where its TYPE is not.")
    static void ofIntThatFitsNone(Run run) {
        isGivenAlone(run, 65536, INT, INT, LONG, FLOAT, DOUBLE, INT_BOX, OBJECT, NUMBER, COMPARABLE,
                SERIALIZABLE);
        isGivenAlone(run, -32769, INT, INT, LONG, FLOAT, DOUBLE, INT_BOX, OBJECT, NUMBER,
                COMPARABLE, SERIALIZABLE);
    }

    @Says("A CONSTANT of char, byte, short or int")
    static void ofShort(Run run) {
        isGivenAlone(run, 5, SHORT, CHAR, BYTE, SHORT, INT, LONG, FLOAT, DOUBLE, CHAR_BOX, BYTE_BOX,
                SHORT_BOX, OBJECT, NUMBER, COMPARABLE, SERIALIZABLE);
        isGivenAlone(run, -129, SHORT, SHORT, INT, LONG, FLOAT, DOUBLE, SHORT_BOX, OBJECT, NUMBER,
                COMPARABLE, SERIALIZABLE);
    }

    @Says("A CONSTANT of char, byte, short or int")
    static void ofByte(Run run) {
        isGivenAlone(run, 5, BYTE, CHAR, BYTE, SHORT, INT, LONG, FLOAT, DOUBLE, CHAR_BOX, BYTE_BOX,
                SHORT_BOX, OBJECT, NUMBER, COMPARABLE, SERIALIZABLE);
        isGivenAlone(run, -1, BYTE, BYTE, SHORT, INT, LONG, FLOAT, DOUBLE, BYTE_BOX, SHORT_BOX,
                OBJECT, NUMBER, COMPARABLE, SERIALIZABLE);
    }

    @Says("A CONSTANT of char, byte, short or int")
    static void ofChar(Run run) {
        isGivenAlone(run, 5, CHAR, CHAR, BYTE, SHORT, INT, LONG, FLOAT, DOUBLE, CHAR_BOX, BYTE_BOX,
                SHORT_BOX, OBJECT, COMPARABLE, SERIALIZABLE);
        isGivenAlone(run, 32768, CHAR, CHAR, INT, LONG, FLOAT, DOUBLE, CHAR_BOX, OBJECT, COMPARABLE,
                SERIALIZABLE);
    }

    @Says("A CONSTANT of char, byte, short or int")
    static void ofLongIsGivenAsItsTypeAlone(Run run) {
        isGivenAlone(run, 5, LONG, LONG, FLOAT, DOUBLE, LONG_BOX, OBJECT, NUMBER, COMPARABLE,
                SERIALIZABLE);
        isGivenAlone(run, 0, LONG, LONG, FLOAT, DOUBLE, LONG_BOX, OBJECT, NUMBER, COMPARABLE,
                SERIALIZABLE);
    }

    @Says("if it is one of their numbers")
    static void justOneOfTheNumbersAndJustNot(Run run) {
        for (int to = CHAR; to <= SHORT; to++) {
            long least = Names.ends(to)[0];
            long greatest = Names.ends(to)[1];
            run.given(least, INT, to).is(1);
            run.given(least - 1, INT, to).is(0);
            run.given(greatest, INT, to).is(1);
            run.given(greatest + 1, INT, to).is(0);
        }
    }

    @Says("or to the BOX of such a one, likewise")
    static void justOneOfTheBoxsNumbersAndJustNot(Run run) {
        for (int to = CHAR; to <= SHORT; to++) {
            long least = Names.ends(to)[0];
            long greatest = Names.ends(to)[1];
            run.given(least, INT, to + 8).is(1);
            run.given(least - 1, INT, to + 8).is(0);
            run.given(greatest, INT, to + 8).is(1);
            run.given(greatest + 1, INT, to + 8).is(0);
        }
    }

    @Says("if it is one of their numbers")
    static void theEndsAmongTheNarrowTypes(Run run) {
        run.given(127, SHORT, BYTE).is(1);
        run.given(128, SHORT, BYTE).is(0);
        run.given(-128, SHORT, BYTE_BOX).is(1);
        run.given(-129, SHORT, BYTE_BOX).is(0);
        run.given(0, SHORT, CHAR).is(1);
        run.given(-1, SHORT, CHAR_BOX).is(0);
        run.given(127, CHAR, BYTE_BOX).is(1);
        run.given(128, CHAR, BYTE).is(0);
        run.given(32767, CHAR, SHORT).is(1);
        run.given(32768, CHAR, SHORT_BOX).is(0);
        run.given(0, BYTE, CHAR_BOX).is(1);
        run.given(-1, BYTE, CHAR).is(0);
        run.given(-128, BYTE, SHORT_BOX).is(1);
        run.given(-128, BYTE, INT_BOX).is(0);
    }

    @Says("GIVEN to char, byte, short, if it is one of their numbers, or to the BOX of such a one,"
            + " likewise")
    static void notToBooleanThough0And1AreItsBits(Run run) {
        for (int from = CHAR; from <= LONG; from++) {
            for (long v = 0; v <= 1; v++) {
                run.given(v, from, BOOLEAN).is(0);
                run.given(v, from, BOOLEAN_BOX).is(0);
            }
        }
    }

    @Says("GIVEN to char, byte, short, if it is one of their numbers, or to the BOX of such a one,"
            + " likewise")
    static void toNoWiderBox(Run run) {
        for (int from = CHAR; from <= SHORT; from++) {
            for (int to = INT_BOX; to <= DOUBLE_BOX; to++) {
                run.given(1, from, to).is(0);
            }
        }
        for (int to = LONG_BOX; to <= DOUBLE_BOX; to++) {
            run.given(1, INT, to).is(0);
        }
    }

    @Says("is allowed, also where its TYPE is not.")
    static void toTypesTold(Run run) {
        run.newClass(NONE, COMPARABLE, false).is(23);
        run.newInterface(NONE, NONE).is(24);
        run.array(INT).is(25);
        for (int from = CHAR; from <= LONG; from++) {
            for (int to = 23; to <= 25; to++) {
                run.given(1, from, to).is(0);
            }
        }
    }

    @Says("BAD (-1) there is no such TYPE, OBJECT, context")
    static void oneIsNoType(Run run) {
        run.newClass(NONE, NONE, false).is(23);
        run.given(1, -1, INT).refused(BAD);
        run.given(1, INT, -1).refused(BAD);
        for (int t : Names.noneOf(24)) {
            run.given(1, t, INT).refused(BAD);
            run.given(1, INT, t).refused(BAD);
        }
    }

    @Says("OUTSIDE: another TYPE, or v is no number of it.")
    static void ofAnotherType(Run run) {
        run.newClass(NONE, NONE, false).is(23);
        run.given(1, BOOLEAN, BOOLEAN).refused(OUTSIDE);
        for (int from = FLOAT; from <= 23; from++) {
            run.given(1, from, OBJECT).refused(OUTSIDE);
            run.given(0, from, from).refused(OUTSIDE);
        }
    }

    @Says("OUTSIDE: another TYPE, or v is no number of it.")
    static void noNumberOfIt(Run run) {
        for (int from = CHAR; from <= INT; from++) {
            long least = Names.ends(from)[0];
            long greatest = Names.ends(from)[1];
            run.given(least, from, from).is(1);
            run.given(least - 1, from, from).refused(OUTSIDE);
            run.given(least - 1, from, DOUBLE).refused(OUTSIDE);
            run.given(greatest, from, from).is(1);
            run.given(greatest + 1, from, from).refused(OUTSIDE);
            run.given(greatest + 1, from, BOOLEAN).refused(OUTSIDE);
            run.given(Long.MIN_VALUE, from, LONG).refused(OUTSIDE);
            run.given(Long.MAX_VALUE, from, LONG).refused(OUTSIDE);
            // Its lowest 32 bits alone are 1, which is a number of each.
            run.given(4294967297L, from, LONG).refused(OUTSIDE);
        }
    }

    @Says("OUTSIDE: another TYPE, or v is no number of it.")
    static void eachLongIsANumberOfLong(Run run) {
        run.given(Long.MIN_VALUE, LONG, LONG).is(1);
        run.given(Long.MAX_VALUE, LONG, LONG_BOX).is(1);
        run.given(Long.MIN_VALUE, LONG, INT).is(0);
        run.given(Long.MAX_VALUE, LONG, BYTE).is(0);
    }

    @Says("of several the first one here: BAD (-1)")
    static void badIsAheadOfOutside(Run run) {
        run.given(1, BOOLEAN, 23).refused(BAD);
        run.given(1, STRING, -1).refused(BAD);
        run.given(128, BYTE, 23).refused(BAD);
        run.given(Long.MAX_VALUE, 23, INT).refused(BAD);
    }

    @Says("Nothing is promised beyond the answers and state changes described above")
    static void askingChangesNothing(Run run) {
        run.given(127, INT, BYTE).isAndChangesNothing(1);
        run.given(128, INT, BYTE).isAndChangesNothing(0);
    }
}
