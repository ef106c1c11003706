/** Promise 18: cast. */
public final class Promise18CastTest implements Names {
    public static void main(String[] args) throws ReflectiveOperationException {
        Cases.run(Promise18CastTest.class);
    }

    @Says("An OBJECT that is held as a REFERENCE is cast to a TYPE: 1 it may be")
    static void toTheSameOrUp(Run run) {
        run.newInterface(NONE, NONE).is(23);
        run.newClass(NONE, 23, false).is(24);
        run.array(24).is(25);
        run.array(23).is(26);
        run.make(24).is(0);
        run.make(25).is(1);
        run.box(INT_BOX, 5).is(2);
        run.cast(0, 24, 24).is(1);
        run.cast(0, 24, 23).is(1);
        run.cast(0, 23, 23).is(1);
        run.cast(0, 23, OBJECT).is(1);
        run.cast(1, 25, 26).is(1);
        run.cast(1, 26, CLONEABLE).is(1);
        run.cast(2, INT_BOX, INT_BOX).is(1);
        run.cast(2, INT_BOX, NUMBER).is(1);
        run.cast(2, NUMBER, SERIALIZABLE).is(1);
    }

    @Says("An OBJECT that is held as a REFERENCE is cast to a TYPE: 1 it may be")
    static void downToWhatItIs(Run run) {
        run.newInterface(NONE, NONE).is(23);
        run.newClass(NONE, 23, false).is(24);
        run.array(24).is(25);
        run.array(23).is(26);
        run.make(24).is(0);
        run.make(25).is(1);
        run.box(INT_BOX, 5).is(2);
        run.cast(0, OBJECT, 24).is(1);
        run.cast(0, OBJECT, 23).is(1);
        run.cast(0, 23, 24).is(1);
        run.cast(1, OBJECT, 25).is(1);
        run.cast(1, SERIALIZABLE, 26).is(1);
        run.cast(1, 26, 25).is(1);
        run.cast(2, NUMBER, INT_BOX).is(1);
        run.cast(2, NUMBER, COMPARABLE).is(1);
        run.cast(2, COMPARABLE, SERIALIZABLE).is(1);
        run.cast(2, SERIALIZABLE, NUMBER).is(1);
    }

    @Says("An OBJECT that is held as a REFERENCE is cast to a TYPE: 1 it may be")
    static void unboxed(Run run) {
        run.box(INT_BOX, 5).is(0);
        run.box(BOOLEAN_BOX, 0).is(1);
        run.box(CHAR_BOX, 5).is(2);
        run.cast(0, INT_BOX, INT).is(1);
        run.cast(0, NUMBER, INT).is(1);
        run.cast(0, OBJECT, INT).is(1);
        run.cast(0, COMPARABLE, INT).is(1);
        run.cast(1, BOOLEAN_BOX, BOOLEAN).is(1);
        run.cast(1, SERIALIZABLE, BOOLEAN).is(1);
        run.cast(2, OBJECT, CHAR).is(1);
    }

    @Says("An OBJECT that is held as a REFERENCE is cast to a TYPE: 1 it may be")
    static void unboxedThenWider(Run run) {
        run.box(BYTE_BOX, 5).is(0);
        run.box(CHAR_BOX, 5).is(1);
        for (int to = SHORT; to <= DOUBLE; to++) {
            run.cast(0, BYTE_BOX, to).is(1);
        }
        for (int to = INT; to <= DOUBLE; to++) {
            run.cast(1, CHAR_BOX, to).is(1);
        }
    }

    @Says("0 it fails as it runs (ClassCastException)")
    static void downToWhatItIsNot(Run run) {
        run.newInterface(NONE, NONE).is(23);
        run.newClass(NONE, NONE, false).is(24);
        run.newClass(24, 23, true).is(25);
        run.array(24).is(26);
        run.array(25).is(27);
        run.array(23).is(28);
        run.array(INT).is(29);
        run.make(24).is(0);
        run.make(26).is(1);
        run.make(29).is(2);
        run.make(OBJECT).is(3);
        run.cast(0, 24, 25).is(0);
        run.cast(0, 24, 23).is(0);
        run.cast(0, OBJECT, STRING).is(0);
        run.cast(0, OBJECT, 26).is(0);
        run.cast(1, 26, 27).is(0);
        run.cast(1, 26, 28).is(0);
        run.cast(1, CLONEABLE, 29).is(0);
        run.cast(1, CLONEABLE, COMPARABLE).is(0);
        run.cast(2, OBJECT, 26).is(0);
        run.cast(2, SERIALIZABLE, NUMBER).is(0);
        for (int to = BOOLEAN_BOX; to <= 29; to++) {
            if (to != OBJECT && to != NULL) {
                run.cast(3, OBJECT, to).is(0);
            }
        }
    }

    @Says("0 it fails as it runs (ClassCastException)")
    static void downToABoxThatItIsNot(Run run) {
        run.box(INT_BOX, 5).is(0);
        run.make(STRING).is(1);
        for (int to = BOOLEAN; to <= DOUBLE; to++) {
            run.cast(0, OBJECT, to).is(to == INT ? 1 : 0);
            run.cast(0, COMPARABLE, to + 8).is(to == INT ? 1 : 0);
            run.cast(1, OBJECT, to).is(0);
            run.cast(1, SERIALIZABLE, to).is(0);
        }
        run.cast(0, NUMBER, LONG).is(0);
        run.cast(0, NUMBER, DOUBLE_BOX).is(0);
    }

    @Says("2 null, where it is unboxed")
    static void nullUnboxed(Run run) {
        run.make(NULL).is(0);
        for (int to = BOOLEAN; to <= DOUBLE; to++) {
            run.cast(0, to + 8, to).is(2);
            run.cast(0, OBJECT, to).is(2);
            run.cast(0, COMPARABLE, to).is(2);
        }
        run.cast(0, NUMBER, BYTE).is(2);
        run.cast(0, BYTE_BOX, DOUBLE).is(2);
        run.cast(0, CHAR_BOX, INT).is(2);
    }

    @Says("null is UNDER each REFERENCE")
    static void nullNotUnboxed(Run run) {
        run.newInterface(NONE, NONE).is(23);
        run.newClass(NONE, NONE, false).is(24);
        run.array(INT).is(25);
        run.make(NULL).is(0);
        for (int to = BOOLEAN_BOX; to <= 25; to++) {
            run.cast(0, NULL, to).is(1);
            run.cast(0, to, to).is(1);
            if (to != NULL) {
                run.cast(0, OBJECT, to).is(1);
            }
        }
        run.cast(0, 23, 24).is(1);
    }

    @Says("OUTSIDE: the cast is none of CONTEXT 3")
    static void noCastAtAll(Run run) {
        run.newClass(NONE, NONE, false).is(23);
        run.newInterface(NONE, NONE).is(24);
        run.array(INT).is(25);
        run.box(INT_BOX, 5).is(0);
        run.make(23).is(1);
        run.make(25).is(2);
        run.cast(0, INT_BOX, SHORT).refused(OUTSIDE);
        run.cast(0, INT_BOX, BOOLEAN).refused(OUTSIDE);
        run.cast(0, INT_BOX, LONG_BOX).refused(OUTSIDE);
        run.cast(0, INT_BOX, STRING).refused(OUTSIDE);
        run.cast(0, INT_BOX, CLONEABLE).refused(OUTSIDE);
        run.cast(0, INT_BOX, 24).refused(OUTSIDE);
        run.cast(0, NUMBER, CHAR).refused(OUTSIDE);
        run.cast(0, NUMBER, BOOLEAN_BOX).refused(OUTSIDE);
        run.cast(0, OBJECT, NULL).refused(OUTSIDE);
        run.cast(1, 23, STRING).refused(OUTSIDE);
        run.cast(1, 23, INT).refused(OUTSIDE);
        run.cast(1, 23, 25).refused(OUTSIDE);
        run.cast(2, 25, COMPARABLE).refused(OUTSIDE);
        run.cast(2, 25, 24).refused(OUTSIDE);
        run.cast(2, CLONEABLE, INT).refused(OUTSIDE);
    }

    @Says("From null: 1 to itself, 9; to null nothing else.")
    static void noCastOfNull(Run run) {
        run.make(NULL).is(0);
        for (int to = BOOLEAN; to <= DOUBLE; to++) {
            run.cast(0, NULL, to).refused(OUTSIDE);
            run.cast(0, STRING, to).refused(OUTSIDE);
            run.cast(0, CLONEABLE, to).refused(OUTSIDE);
        }
        for (int as = BOOLEAN_BOX; as <= STRING; as++) {
            run.cast(0, as, NULL).refused(OUTSIDE);
        }
        run.cast(0, STRING, INT_BOX).refused(OUTSIDE);
        run.cast(0, LONG_BOX, INT).refused(OUTSIDE);
    }

    @Says("or the OBJECT is not UNDER what it is held as (a PRIMITIVE one, too)")
    static void notUnderWhatItIsHeldAs(Run run) {
        run.newInterface(NONE, NONE).is(23);
        run.newClass(NONE, NONE, false).is(24);
        run.newClass(24, 23, false).is(25);
        run.array(24).is(26);
        run.array(25).is(27);
        run.box(INT_BOX, 5).is(0);
        run.make(24).is(1);
        run.make(26).is(2);
        run.cast(0, LONG_BOX, LONG).refused(OUTSIDE);
        run.cast(0, LONG_BOX, OBJECT).refused(OUTSIDE);
        run.cast(0, STRING, STRING).refused(OUTSIDE);
        run.cast(0, NULL, INT_BOX).refused(OUTSIDE);
        run.cast(0, NULL, NULL).refused(OUTSIDE);
        run.cast(0, CLONEABLE, OBJECT).refused(OUTSIDE);
        run.cast(1, 25, 24).refused(OUTSIDE);
        run.cast(1, 25, 25).refused(OUTSIDE);
        run.cast(1, 23, 24).refused(OUTSIDE);
        run.cast(1, 26, OBJECT).refused(OUTSIDE);
        run.cast(2, 27, 26).refused(OUTSIDE);
        run.cast(2, COMPARABLE, OBJECT).refused(OUTSIDE);
    }

    @Says("or the OBJECT is not UNDER what it is held as (a PRIMITIVE one, too)")
    static void heldAsAPrimitive(Run run) {
        run.box(INT_BOX, 5).is(0);
        run.make(NULL).is(1);
        for (int as = BOOLEAN; as <= DOUBLE; as++) {
            for (int object = 0; object <= 1; object++) {
                run.cast(object, as, as).refused(OUTSIDE);
                run.cast(object, as, as + 8).refused(OUTSIDE);
                run.cast(object, as, OBJECT).refused(OUTSIDE);
                run.cast(object, as, DOUBLE).refused(OUTSIDE);
            }
        }
    }

    @Says("CLASSES, INTERFACES and ARRAYS told (40 TYPES at most)")
    static void theLastTypeAndTheLastObject(Run run) {
        run.newInterface(NONE, NONE).is(23);
        for (int t = 24; t < 39; t++) {
            run.newClass(NONE, NONE, true).is(t);
        }
        run.newClass(NONE, 23, false).is(39);
        for (int object = 0; object < 59; object++) {
            run.make(38).is(object);
        }
        run.make(39).is(59);
        run.cast(59, 39, 23).is(1);
        run.cast(59, OBJECT, 39).is(1);
        run.cast(59, OBJECT, 38).is(0);
        run.cast(58, OBJECT, 39).is(0);
        run.cast(58, 39, OBJECT).refused(OUTSIDE);
        run.cast(60, OBJECT, OBJECT).refused(BAD);
        run.cast(59, 40, OBJECT).refused(BAD);
        run.cast(59, OBJECT, 40).refused(BAD);
    }

    @Says("BAD (-1) there is no such TYPE, OBJECT, context")
    static void noSuchObject(Run run) {
        run.cast(0, OBJECT, OBJECT).refused(BAD);
        run.make(STRING).is(0);
        run.cast(-1, OBJECT, OBJECT).refused(BAD);
        for (int object : Names.noneOf(1)) {
            run.cast(object, OBJECT, OBJECT).refused(BAD);
        }
    }

    @Says("BAD (-1) there is no such TYPE, OBJECT, context")
    static void noSuchType(Run run) {
        run.newClass(NONE, NONE, false).is(23);
        run.make(23).is(0);
        run.cast(0, -1, OBJECT).refused(BAD);
        run.cast(0, OBJECT, -1).refused(BAD);
        for (int t : Names.noneOf(24)) {
            run.cast(0, t, OBJECT).refused(BAD);
            run.cast(0, OBJECT, t).refused(BAD);
            run.cast(0, t, t).refused(BAD);
        }
    }

    @Says("of several the first one here: BAD (-1)")
    static void badIsAheadOfOutside(Run run) {
        run.make(STRING).is(0);
        run.cast(0, INT, 23).refused(BAD);
        run.cast(0, INT_BOX, 23).refused(BAD);
        run.cast(0, NULL, -1).refused(BAD);
        run.cast(0, 23, INT).refused(BAD);
        run.cast(1, INT, INT).refused(BAD);
        run.cast(1, STRING, INT).refused(BAD);
        run.cast(-1, INT_BOX, STRING).refused(BAD);
    }

    @Says("OBJECTS (60 at most) are of a TYPE that they keep")
    static void theTypeAndTheBitsStay(Run run) {
        run.box(INT_BOX, -7).is(0);
        run.make(NULL).is(1);
        run.cast(0, INT_BOX, NUMBER).isAndChangesNothing(1);
        run.cast(0, INT_BOX, LONG).isAndChangesNothing(1);
        run.cast(0, OBJECT, LONG).isAndChangesNothing(0);
        run.cast(0, OBJECT, STRING).isAndChangesNothing(0);
        run.cast(1, STRING, OBJECT).isAndChangesNothing(1);
        run.cast(1, OBJECT, INT).isAndChangesNothing(2);
    }
}
