/** Promise 6: under. */
public final class Promise06UnderTest implements Names {
    public static void main(String[] args) throws ReflectiveOperationException {
        Cases.run(Promise06UnderTest.class);
    }

    /** Holds one type against all that may be above it: those told are, and itself. */
    private static void isUnderAlone(Run run, int s, int count, int... above) {
        for (int t = BOOLEAN_BOX; t < count; t++) {
            boolean due = s == t;
            for (int one : above) {
                due = due || one == t;
            }
            run.under(s, t).is(due ? 1 : 0);
        }
    }

    @Says("S is UNDER T, if it is T")
    static void eachReferenceIsUnderItself(Run run) {
        run.newClass(NONE, NONE, true).is(23);
        run.newInterface(NONE, NONE).is(24);
        run.array(INT).is(25);
        for (int t = BOOLEAN_BOX; t <= 25; t++) {
            run.under(t, t).is(1);
        }
    }

    @Says("above Number Object and Serializable")
    static void aboveNumber(Run run) {
        isUnderAlone(run, NUMBER, 23, OBJECT, SERIALIZABLE);
    }

    @Says("above the BOXES of 2 .. 7 Number and Comparable")
    static void aboveTheBoxesOfNumbersButChar(Run run) {
        for (int box = BYTE_BOX; box <= DOUBLE_BOX; box++) {
            isUnderAlone(run, box, 23, NUMBER, COMPARABLE, OBJECT, SERIALIZABLE);
        }
    }

    @Says("above those of boolean, char and above String Object, Comparable, Serializable")
    static void aboveTheOtherBoxesAndString(Run run) {
        isUnderAlone(run, BOOLEAN_BOX, 23, OBJECT, COMPARABLE, SERIALIZABLE);
        isUnderAlone(run, CHAR_BOX, 23, OBJECT, COMPARABLE, SERIALIZABLE);
        isUnderAlone(run, STRING, 23, OBJECT, COMPARABLE, SERIALIZABLE);
    }

    @Says("above INTERFACES Object")
    static void aboveTheKnownInterfaces(Run run) {
        for (int face = COMPARABLE; face <= CLONEABLE; face++) {
            isUnderAlone(run, face, 23, OBJECT);
        }
    }

    @Says("S is UNDER T, if it is T")
    static void nothingIsAboveObject(Run run) {
        isUnderAlone(run, OBJECT, 23);
    }

    @Says("T stands above it or above what is above it, so on")
    static void whatIsAboveWhatIsAbove(Run run) {
        run.newInterface(CLONEABLE, NONE).is(23);
        run.newInterface(NONE, 23).is(24);
        run.newClass(NONE, 24, false).is(25);
        run.newClass(25, COMPARABLE, false).is(26);
        run.newClass(26, NONE, true).is(27);
        isUnderAlone(run, 27, 28, 26, 25, 24, 23, CLONEABLE, COMPARABLE, OBJECT);
        isUnderAlone(run, 25, 28, 24, 23, CLONEABLE, OBJECT);
        isUnderAlone(run, 24, 28, 23, CLONEABLE, OBJECT);
    }

    @Says("null is UNDER each REFERENCE")
    static void nullIsUnderAllAndNoneUnderNull(Run run) {
        run.newClass(NONE, NONE, true).is(23);
        run.newInterface(NONE, NONE).is(24);
        run.array(INT).is(25);
        for (int t = BOOLEAN_BOX; t <= 25; t++) {
            run.under(NULL, t).is(1);
            run.under(t, NULL).is(t == NULL ? 1 : 0);
        }
    }

    @Says("CLASSES, INTERFACES and ARRAYS told (40 TYPES at most)")
    static void theLastTypeIsUnderAndAboveAsAnyOther(Run run) {
        run.newInterface(NONE, NONE).is(23);
        for (int t = 24; t < 38; t++) {
            run.newClass(NONE, NONE, false).is(t);
        }
        run.newClass(37, 23, false).is(38);
        run.newClass(38, NONE, false).is(39);
        isUnderAlone(run, 39, 40, 38, 37, 23, OBJECT);
        run.under(NULL, 39).is(1);
        for (int t = BOOLEAN_BOX; t < 39; t++) {
            run.under(t, 39).is(t == NULL ? 1 : 0);
        }
    }

    @Says("an ARRAY is UNDER an ARRAY, if their ELEMENTS are the same, or REFERENCES, the one's"
            + " UNDER the other's")
    static void arraysOfReferences(Run run) {
        int integers = run.array(INT_BOX).is(23);
        int numbers = run.array(NUMBER).is(24);
        int texts = run.array(STRING).is(25);
        int comparables = run.array(COMPARABLE).is(26);
        int objects = run.array(OBJECT).is(27);
        isUnderAlone(run, integers, 28, numbers, comparables, objects, OBJECT, CLONEABLE,
                SERIALIZABLE);
        isUnderAlone(run, texts, 28, comparables, objects, OBJECT, CLONEABLE, SERIALIZABLE);
        isUnderAlone(run, numbers, 28, objects, OBJECT, CLONEABLE, SERIALIZABLE);
        isUnderAlone(run, objects, 28, OBJECT, CLONEABLE, SERIALIZABLE);
    }

    @Says("an ARRAY is UNDER an ARRAY, if their ELEMENTS are the same, or REFERENCES, the one's"
            + " UNDER the other's")
    static void arraysOfPrimitivesAreUnderNoOtherArray(Run run) {
        int bytes = run.array(BYTE).is(23);
        int shorts = run.array(SHORT).is(24);
        int byteBoxes = run.array(BYTE_BOX).is(25);
        int objects = run.array(OBJECT).is(26);
        isUnderAlone(run, bytes, 27, OBJECT, CLONEABLE, SERIALIZABLE);
        isUnderAlone(run, shorts, 27, OBJECT, CLONEABLE, SERIALIZABLE);
        isUnderAlone(run, byteBoxes, 27, objects, OBJECT, CLONEABLE, SERIALIZABLE);
    }

    @Says("an ARRAY is UNDER an ARRAY, if their ELEMENTS are the same, or REFERENCES, the one's"
            + " UNDER the other's")
    static void arraysOfArrays(Run run) {
        int integers = run.array(INT_BOX).is(23);
        int integers2 = run.array(integers).is(24);
        int ints = run.array(INT).is(25);
        int ints2 = run.array(ints).is(26);
        int numbers = run.array(NUMBER).is(27);
        int objects = run.array(OBJECT).is(28);
        int cloneables = run.array(CLONEABLE).is(29);
        int serializables = run.array(SERIALIZABLE).is(30);
        int numbers2 = run.array(numbers).is(31);
        int objects2 = run.array(objects).is(32);
        isUnderAlone(run, integers2, 33, numbers2, objects2, cloneables, serializables, objects,
                OBJECT, CLONEABLE, SERIALIZABLE);
        isUnderAlone(run, ints2, 33, cloneables, serializables, objects, OBJECT, CLONEABLE,
                SERIALIZABLE);
        isUnderAlone(run, objects2, 33, cloneables, serializables, objects, OBJECT, CLONEABLE,
                SERIALIZABLE);
        isUnderAlone(run, integers, 33, numbers, serializables, objects, OBJECT, CLONEABLE,
                SERIALIZABLE);
    }

    @Says("an ARRAY is UNDER an ARRAY, if their ELEMENTS are the same, or REFERENCES, the one's"
            + " UNDER the other's")
    static void arraysOfOnesTold(Run run) {
        int face = run.newInterface(NONE, NONE).is(23);
        int upper = run.newClass(NONE, face, false).is(24);
        int uppers = run.array(upper).is(25);
        int lower = run.newClass(upper, NONE, true).is(26);
        int lowers = run.array(lower).is(27);
        int faces = run.array(face).is(28);
        isUnderAlone(run, lowers, 29, uppers, faces, OBJECT, CLONEABLE, SERIALIZABLE);
        isUnderAlone(run, uppers, 29, faces, OBJECT, CLONEABLE, SERIALIZABLE);
        isUnderAlone(run, faces, 29, OBJECT, CLONEABLE, SERIALIZABLE);
    }

    @Says("BAD (-1) there is no such TYPE, OBJECT, context")
    static void oneIsNoType(Run run) {
        run.newClass(NONE, NONE, false).is(23);
        run.under(-1, OBJECT).refused(BAD);
        run.under(OBJECT, -1).refused(BAD);
        for (int t : Names.noneOf(24)) {
            run.under(t, OBJECT).refused(BAD);
            run.under(NULL, t).refused(BAD);
            run.under(t, t).refused(BAD);
        }
    }

    @Says("OUTSIDE: one is PRIMITIVE.")
    static void oneIsPrimitive(Run run) {
        for (int t = BOOLEAN; t <= DOUBLE; t++) {
            run.under(t, OBJECT).refused(OUTSIDE);
            run.under(t, t + 8).refused(OUTSIDE);
            run.under(NULL, t).refused(OUTSIDE);
            run.under(t, t).refused(OUTSIDE);
        }
    }

    @Says("of several the first one here: BAD (-1)")
    static void badIsAheadOfOutside(Run run) {
        run.under(INT, 23).refused(BAD);
        run.under(23, INT).refused(BAD);
        run.under(-1, DOUBLE).refused(BAD);
    }

    @Says("Nothing is promised beyond the answers and state changes described above")
    static void askingChangesNothing(Run run) {
        run.newClass(NONE, NONE, false).is(23);
        run.under(23, OBJECT).isAndChangesNothing(1);
        run.under(23, CLONEABLE).isAndChangesNothing(0);
        run.under(NULL, 23).isAndChangesNothing(1);
    }
}
