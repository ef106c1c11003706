/** Promise 15: make. */
public final class Promise15MakeTest implements Names {
    public static void main(String[] args) throws ReflectiveOperationException {
        Cases.run(Promise15MakeTest.class);
    }

    @Says("An OBJECT of a CLASS told, Object, String, an ARRAY, or null (22): its number.")
    static void ofWhatMayBeMade(Run run) {
        run.newClass(NONE, NONE, false).is(23);
        run.newClass(NONE, NONE, true).is(24);
        run.newInterface(NONE, NONE).is(25);
        run.array(INT).is(26);
        run.array(25).is(27);
        run.array(NUMBER).is(28);
        int next = 0;
        for (int type : new int[] {OBJECT, STRING, NULL, 23, 24, 26, 27, 28, NULL, 23}) {
            run.make(type).is(next);
            run.typeOf(next).is(type);
            next++;
        }
        run.count(1).is(10);
    }

    @Says("An OBJECT of a CLASS told, Object, String, an ARRAY, or null (22): its number.")
    static void ofTheLastType(Run run) {
        run.fillTypes(FIRST_TOLD);
        run.make(39).is(0);
        run.typeOf(0).is(39);
        run.make(40).refused(BAD);
    }

    @Says("BAD (-1) there is no such TYPE, OBJECT, context")
    static void ofNoType(Run run) {
        run.newClass(NONE, NONE, false).is(23);
        run.make(-1).refused(BAD);
        for (int t : Names.noneOf(24)) {
            run.make(t).refused(BAD);
        }
    }

    @Says("OUTSIDE: of another TYPE.")
    static void ofPrimitives(Run run) {
        for (int t = BOOLEAN; t <= DOUBLE; t++) {
            run.make(t).refused(OUTSIDE);
        }
    }

    @Says("OUTSIDE: of another TYPE.")
    static void ofBoxes(Run run) {
        for (int t = BOOLEAN_BOX; t <= DOUBLE_BOX; t++) {
            run.make(t).refused(OUTSIDE);
        }
    }

    @Says("OUTSIDE: of another TYPE.")
    static void ofNumber(Run run) {
        run.make(NUMBER).refused(OUTSIDE);
    }

    @Says("OUTSIDE: of another TYPE.")
    static void ofInterfaces(Run run) {
        run.newInterface(NONE, NONE).is(23);
        for (int t : new int[] {COMPARABLE, SERIALIZABLE, CLONEABLE, 23}) {
            run.make(t).refused(OUTSIDE);
        }
    }

    @Says("OBJECTS (60 at most) are of a TYPE that they keep")
    static void the60thObjectIsTheLast(Run run) {
        for (int object = 0; object < MOST_OBJECTS; object++) {
            run.make(object % 2 == 0 ? NULL : STRING).is(object);
        }
        run.make(NULL).refused(FULL);
        run.make(OBJECT).refused(FULL);
        run.count(1).is(60);
        run.typeOf(58).is(NULL);
        run.typeOf(59).is(STRING);
    }

    @Says("OBJECTS (60 at most) are of a TYPE that they keep")
    static void boxesAndOthersTakeTheSamePlaces(Run run) {
        for (int object = 0; object < 59; object++) {
            run.box(BOOLEAN_BOX, 1).is(object);
        }
        run.make(OBJECT).is(59);
        run.make(OBJECT).refused(FULL);
        run.box(BOOLEAN_BOX, 1).refused(FULL);
    }

    @Says("of several the first one here: BAD (-1)")
    static void badIsAheadOfFull(Run run) {
        run.fillObjects(0);
        run.make(23).refused(BAD);
        run.make(-1).refused(BAD);
    }

    @Says("OUTSIDE (-2) as told; FULL (-3)")
    static void outsideIsAheadOfFull(Run run) {
        run.fillObjects(0);
        run.make(NUMBER).refused(OUTSIDE);
        run.make(INT).refused(OUTSIDE);
        run.make(CLONEABLE).refused(OUTSIDE);
    }
}
