/** Promise 17: unboxed. */
public final class Promise17UnboxedTest implements Names {
    public static void main(String[] args) throws ReflectiveOperationException {
        Cases.run(Promise17UnboxedTest.class);
    }

    @Says("BITS of an OBJECT, cast to a BOX and unboxed.")
    static void bitsOfEachBox(Run run) {
        int next = 0;
        for (int box = BOOLEAN_BOX; box <= DOUBLE_BOX; box++) {
            run.box(box, 1).is(next);
            run.box(box, 0).is(next + 1);
            run.unboxed(next, box).is(1);
            run.unboxed(next + 1, box).is(0);
            next += 2;
        }
    }

    @Says("BITS of an OBJECT, cast to a BOX and unboxed.")
    static void bitsThatLookLikeRefusals(Run run) {
        int next = 0;
        for (int box : new int[] {BYTE_BOX, SHORT_BOX, INT_BOX, LONG_BOX}) {
            for (long bits = BAD; bits >= FULL; bits--) {
                run.box(box, bits).is(next);
                run.unboxed(next, box).is(bits);
                next++;
            }
        }
    }

    @Says("BAD (first): no such OBJECT, or TYPE")
    static void noSuchObject(Run run) {
        run.unboxed(0, INT_BOX).refused(BAD);
        run.box(INT_BOX, 5).is(0);
        run.unboxed(-1, INT_BOX).refused(BAD);
        for (int object : Names.noneOf(1)) {
            run.unboxed(object, INT_BOX).refused(BAD);
        }
    }

    @Says("BAD (first): no such OBJECT, or TYPE")
    static void noSuchType(Run run) {
        run.newClass(NONE, NONE, false).is(23);
        run.box(INT_BOX, 5).is(0);
        run.unboxed(0, -1).refused(BAD);
        for (int box : Names.noneOf(24)) {
            run.unboxed(0, box).refused(BAD);
        }
    }

    @Says("BAD (first): no such OBJECT, or TYPE")
    static void the61stObjectIsNone(Run run) {
        for (int object = 0; object < MOST_OBJECTS; object++) {
            run.box(LONG_BOX, -object).is(object);
        }
        run.unboxed(59, LONG_BOX).is(-59);
        run.unboxed(60, LONG_BOX).refused(BAD);
    }

    @Says("OUTSIDE: no BOX.")
    static void noBox(Run run) {
        run.newClass(NONE, NONE, false).is(23);
        run.array(INT_BOX).is(24);
        run.box(INT_BOX, 5).is(0);
        for (int t = BOOLEAN; t <= DOUBLE; t++) {
            run.unboxed(0, t).refused(OUTSIDE);
        }
        for (int t = OBJECT; t <= 24; t++) {
            run.unboxed(0, t).refused(OUTSIDE);
        }
    }

    @Says("ClassCastException: it is another thing")
    static void anotherBox(Run run) {
        for (int own = BOOLEAN_BOX; own <= DOUBLE_BOX; own++) {
            int object = run.box(own, 1).is(own - BOOLEAN_BOX);
            for (int box = BOOLEAN_BOX; box <= DOUBLE_BOX; box++) {
                if (box != own) {
                    run.unboxed(object, box).fails(CLASS_CAST);
                }
            }
        }
    }

    @Says("BOXES with BITS, those of CLASSES that are told, of Object and String (all empty), of"
            + " ARRAYS; and null.")
    static void noBoxAtAll(Run run) {
        run.newClass(NONE, NONE, false).is(23);
        run.array(INT_BOX).is(24);
        int next = 0;
        for (int type : new int[] {OBJECT, STRING, 23, 24}) {
            run.make(type).is(next);
            for (int box = BOOLEAN_BOX; box <= DOUBLE_BOX; box++) {
                run.unboxed(next, box).fails(CLASS_CAST);
            }
            next++;
        }
    }

    @Says("NullPointerException: null.")
    static void nullToEachBox(Run run) {
        run.make(NULL).is(0);
        for (int box = BOOLEAN_BOX; box <= DOUBLE_BOX; box++) {
            run.unboxed(0, box).fails(NULL_POINTER);
        }
    }

    @Says("of several the first one here: BAD (-1)")
    static void badIsAheadOfOutside(Run run) {
        run.unboxed(0, INT).refused(BAD);
        run.unboxed(0, STRING).refused(BAD);
        run.unboxed(-1, NULL).refused(BAD);
    }

    @Says("BAD (first): no such OBJECT, or TYPE")
    static void badIsAheadOfTheExceptions(Run run) {
        run.make(NULL).is(0);
        run.make(STRING).is(1);
        run.unboxed(0, 23).refused(BAD);
        run.unboxed(0, -1).refused(BAD);
        run.unboxed(1, 23).refused(BAD);
        run.unboxed(1, -1).refused(BAD);
    }

    @Says("OUTSIDE: no BOX.")
    static void outsideIsAheadOfTheExceptions(Run run) {
        run.make(NULL).is(0);
        run.make(STRING).is(1);
        run.unboxed(0, INT).refused(OUTSIDE);
        run.unboxed(0, NULL).refused(OUTSIDE);
        run.unboxed(0, OBJECT).refused(OUTSIDE);
        run.unboxed(1, INT).refused(OUTSIDE);
        run.unboxed(1, STRING).refused(OUTSIDE);
    }

    @Says("OBJECTS (60 at most) are of a TYPE that they keep: BOXES with BITS")
    static void theBitsStay(Run run) {
        run.box(LONG_BOX, -7).is(0);
        run.box(DOUBLE_BOX, 9).is(1);
        run.unboxed(0, LONG_BOX).isAndChangesNothing(-7);
        run.unboxed(0, LONG_BOX).isAndChangesNothing(-7);
        run.unboxed(1, DOUBLE_BOX).isAndChangesNothing(9);
    }
}
