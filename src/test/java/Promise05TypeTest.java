/** Promise 5: type. */
public final class Promise05TypeTest implements Names {
    public static void main(String[] args) throws ReflectiveOperationException {
        Cases.run(Promise05TypeTest.class);
    }

    @Says("what = 0 its sort (0 PRIMITIVE, 1 CLASS, 2 INTERFACE, 3 ARRAY, 4 null)")
    static void sorts(Run run) {
        for (int t = BOOLEAN; t <= DOUBLE; t++) {
            run.type(t, 0).is(0);
        }
        run.type(NULL, 0).is(4);
        run.newClass(NONE, NONE, true).is(23);
        run.newInterface(NONE, NONE).is(24);
        run.array(24).is(25);
        run.type(23, 0).is(1);
        run.type(24, 0).is(2);
        run.type(25, 0).is(3);
    }

    @Says("Comparable, Serializable, Cloneable are INTERFACES; Object, Number, BOXES, String are"
            + " CLASSES")
    static void sortsOfTheKnownReferences(Run run) {
        for (int t = BOOLEAN_BOX; t <= NUMBER; t++) {
            run.type(t, 0).is(1);
        }
        for (int t = COMPARABLE; t <= CLONEABLE; t++) {
            run.type(t, 0).is(2);
        }
        run.type(STRING, 0).is(1);
    }

    @Says("BOXES and String are FINAL.")
    static void finalOnes(Run run) {
        for (int t = BOOLEAN; t <= NULL; t++) {
            boolean isFinal = t >= BOOLEAN_BOX && t <= DOUBLE_BOX || t == STRING;
            run.type(t, 1).is(isFinal ? 1 : 0);
        }
    }

    @Says("1 whether it is FINAL (1, 0)")
    static void finalOnesTold(Run run) {
        run.newClass(NONE, NONE, true).is(23);
        run.newClass(NONE, NONE, false).is(24);
        run.newInterface(NONE, NONE).is(25);
        run.array(23).is(26);
        run.type(23, 1).is(1);
        run.type(24, 1).is(0);
        run.type(25, 1).is(0);
        run.type(26, 1).is(0);
    }

    @Says("2 the TYPE of its ELEMENTS (-2: no ARRAY)")
    static void elements(Run run) {
        run.array(BOOLEAN).is(23);
        run.array(23).is(24);
        run.array(STRING).is(25);
        run.type(23, 2).is(BOOLEAN);
        run.type(24, 2).is(23);
        run.type(25, 2).is(STRING);
    }

    @Says("2 the TYPE of its ELEMENTS (-2: no ARRAY)")
    static void noArrayHasNoElements(Run run) {
        run.newClass(NONE, NONE, false).is(23);
        run.newInterface(NONE, NONE).is(24);
        for (int t = BOOLEAN; t <= 24; t++) {
            run.type(t, 2).refused(OUTSIDE);
        }
    }

    @Says("3 how many TYPES it is UNDER (0 of PRIMITIVE ones; itself, too)")
    static void primitivesAreUnderNone(Run run) {
        for (int t = BOOLEAN; t <= DOUBLE; t++) {
            run.type(t, 3).is(0);
        }
    }

    @Says("3 how many TYPES it is UNDER (0 of PRIMITIVE ones; itself, too)")
    static void knownReferencesAreUnderThemselvesToo(Run run) {
        int[] due = {4, 4, 5, 5, 5, 5, 5, 5, 1, 3, 2, 2, 2, 4, 15};
        for (int t = BOOLEAN_BOX; t <= NULL; t++) {
            run.type(t, 3).is(due[t - BOOLEAN_BOX]);
        }
    }

    @Says("null is UNDER each REFERENCE")
    static void nullIsUnderEachOneTold(Run run) {
        run.newClass(NONE, NONE, false).is(23);
        run.type(NULL, 3).is(16);
        run.newInterface(NONE, NONE).is(24);
        run.type(NULL, 3).is(17);
        run.array(INT).is(25);
        run.type(NULL, 3).is(18);
        run.fillTypes(26);
        run.type(NULL, 3).is(32);
    }

    @Says("3 how many TYPES it is UNDER (0 of PRIMITIVE ones; itself, too)")
    static void arraysToldLaterCount(Run run) {
        run.array(INT_BOX).is(23);
        run.type(23, 3).is(4);
        run.array(NUMBER).is(24);
        run.type(23, 3).is(5);
        run.array(OBJECT).is(25);
        run.type(23, 3).is(6);
        run.type(24, 3).is(5);
        run.type(25, 3).is(4);
        run.array(INT).is(26);
        run.type(26, 3).is(4);
        run.array(26).is(27);
        run.type(27, 3).is(5);
        run.type(23, 3).is(6);
    }

    @Says("BAD (-1) there is no such TYPE, OBJECT, context")
    static void ofNoType(Run run) {
        run.array(INT).is(23);
        for (int what = 0; what <= 3; what++) {
            run.type(-1, what).refused(BAD);
            run.type(-2, what).refused(BAD);
            for (int t : Names.noneOf(24)) {
                run.type(t, what).refused(BAD);
            }
        }
    }

    @Says("BAD (-1) there is no such TYPE, OBJECT, context")
    static void the41stTypeIsNone(Run run) {
        run.fillTypes(FIRST_TOLD);
        for (int what = 0; what <= 3; what++) {
            run.type(40, what).refused(BAD);
        }
        run.type(39, 3).is(2);
    }

    @Says("OUTSIDE: another what.")
    static void anotherWhat(Run run) {
        run.array(INT).is(23);
        for (int what : new int[] {Integer.MIN_VALUE, -2, -1, 4, 5, Integer.MAX_VALUE}) {
            run.type(BOOLEAN, what).refused(OUTSIDE);
            run.type(NULL, what).refused(OUTSIDE);
            run.type(23, what).refused(OUTSIDE);
        }
    }

    @Says("of several the first one here: BAD (-1)")
    static void badIsAheadOfOutside(Run run) {
        run.type(23, 4).refused(BAD);
        run.type(-1, -1).refused(BAD);
    }

    @Says("Nothing is promised beyond the answers and state changes described above")
    static void askingChangesNothing(Run run) {
        run.array(STRING).is(23);
        run.type(23, 0).isAndChangesNothing(3);
        run.type(STRING, 1).isAndChangesNothing(1);
        run.type(23, 2).isAndChangesNothing(STRING);
        run.type(NULL, 3).isAndChangesNothing(16);
    }
}
