/** Promise 1: a new object. */
public final class Promise01NewObjectTest implements Names {
    public static void main(String[] args) throws ReflectiveOperationException {
        Cases.run(Promise01NewObjectTest.class);
    }

    @Says("TYPES 0 .. 22, no OBJECTS.")
    static void hasTheTypesFrom0To22(Run run) {
        int[] sorts = {0, 0, 0, 0, 0, 0, 0, 0, 1, 1, 1, 1, 1, 1, 1, 1, 1, 1, 2, 2, 2, 1, 4};
        run.count(0).is(23);
        for (int t = 0; t <= 22; t++) {
            run.type(t, 0).is(sorts[t]);
        }
    }

    @Says("TYPES 0 .. 22, no OBJECTS.")
    static void hasNoTypeBeyond22(Run run) {
        run.type(23, 0).refused(BAD);
        run.array(23).refused(BAD);
        run.under(OBJECT, 23).refused(BAD);
        run.kind(23, OBJECT, CASTING).refused(BAD);
        run.conditional(INT, 23).refused(BAD);
        run.make(23).refused(BAD);
        run.newClass(23, NONE, false).refused(BAD);
    }

    @Says("TYPES 0 .. 22, no OBJECTS.")
    static void hasNoTypeBelow0(Run run) {
        run.type(-1, 0).refused(BAD);
        run.array(-1).refused(BAD);
        run.kind(-1, OBJECT, CASTING).refused(BAD);
        run.make(-1).refused(BAD);
    }

    @Says("TYPES 0 .. 22, no OBJECTS.")
    static void hasNoObject(Run run) {
        run.count(1).is(0);
        run.typeOf(0).refused(BAD);
        run.unboxed(0, INT_BOX).refused(BAD);
        run.cast(0, OBJECT, OBJECT).refused(BAD);
    }

    @Says("TYPES 0 .. 22, no OBJECTS.")
    static void knowsNothingOfAnotherObject(Run run) {
        run.fillTypes(FIRST_TOLD);
        run.fillObjects(0);
        Run later = run.another();
        later.count(0).is(23);
        later.count(1).is(0);
        later.type(23, 0).refused(BAD);
        later.typeOf(0).refused(BAD);
        later.type(NULL, 3).is(15);
        later.newInterface(NONE, NONE).is(23);
        later.make(STRING).is(0);
        run.type(23, 0).is(1);
        run.typeOf(0).is(OBJECT);
    }

    @Says("An object is used for at most 512 calls after it has been made")
    static void answersThe512thCallAsTheFirst(Run run) {
        run.fillTypes(FIRST_TOLD);
        run.fillObjects(0);
        for (int call = 17 + 60; call < MOST_CALLS - 3; call++) {
            run.kind(39, OBJECT, STRICT).is(UP);
        }
        run.typeOf(59).is(OBJECT);
        run.under(39, OBJECT).is(1);
        run.newClass(NONE, NONE, false).is(FULL);
    }
}
