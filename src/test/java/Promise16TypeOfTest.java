/** Promise 16: typeOf. */
public final class Promise16TypeOfTest implements Names {
    public static void main(String[] args) throws ReflectiveOperationException {
        Cases.run(Promise16TypeOfTest.class);
    }

    @Says("The TYPE of an OBJECT.")
    static void ofEachSortOfObject(Run run) {
        run.newClass(NONE, NONE, false).is(23);
        run.array(23).is(24);
        int next = 0;
        for (int box = BOOLEAN_BOX; box <= DOUBLE_BOX; box++) {
            run.box(box, 1).is(next);
            run.typeOf(next).is(box);
            next++;
        }
        for (int type : new int[] {OBJECT, STRING, NULL, 23, 24}) {
            run.make(type).is(next);
            run.typeOf(next).is(type);
            next++;
        }
    }

    @Says("OBJECTS (60 at most) are of a TYPE that they keep")
    static void theyKeepTheirType(Run run) {
        run.newClass(NONE, NONE, false).is(23);
        run.make(23).is(0);
        run.box(SHORT_BOX, -5).is(1);
        run.make(NULL).is(2);
        run.newClass(23, NONE, false).is(24);
        run.array(23).is(25);
        run.make(25).is(3);
        run.cast(0, 23, OBJECT).is(1);
        run.cast(0, 23, 24).is(0);
        run.cast(1, SHORT_BOX, INT).is(1);
        run.fillTypes(26);
        run.fillObjects(4);
        run.typeOf(0).is(23);
        run.typeOf(1).is(SHORT_BOX);
        run.typeOf(2).is(NULL);
        run.typeOf(3).is(25);
        run.typeOf(59).is(OBJECT);
        run.unboxed(1, SHORT_BOX).is(-5);
    }

    @Says("BAD (-1) there is no such TYPE, OBJECT, context")
    static void noSuchObject(Run run) {
        run.typeOf(0).refused(BAD);
        run.make(STRING).is(0);
        run.typeOf(-1).refused(BAD);
        for (int object : Names.noneOf(1)) {
            run.typeOf(object).refused(BAD);
        }
    }

    @Says("BAD (-1) there is no such TYPE, OBJECT, context")
    static void the61stObjectIsNone(Run run) {
        run.fillObjects(0);
        run.typeOf(59).is(OBJECT);
        run.typeOf(-1).refused(BAD);
        for (int object : Names.noneOf(60)) {
            run.typeOf(object).refused(BAD);
        }
    }

    @Says("Nothing is promised beyond the answers and state changes described above")
    static void askingChangesNothing(Run run) {
        run.make(NULL).is(0);
        run.box(LONG_BOX, -7).is(1);
        run.typeOf(0).isAndChangesNothing(NULL);
        run.typeOf(1).isAndChangesNothing(LONG_BOX);
    }
}
