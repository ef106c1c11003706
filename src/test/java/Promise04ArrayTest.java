/** Promise 4: array. */
public final class Promise04ArrayTest implements Names {
    public static void main(String[] args) throws ReflectiveOperationException {
        Cases.run(Promise04ArrayTest.class);
    }

    @Says("The ARRAY of a TYPE: its number (that which there is, if there is one).")
    static void ofEachSortOfType(Run run) {
        run.newClass(NONE, NONE, true).is(23);
        run.newInterface(NONE, NONE).is(24);
        int next = 25;
        for (int element : new int[] {BOOLEAN, DOUBLE, BOOLEAN_BOX, DOUBLE_BOX, OBJECT, NUMBER,
            COMPARABLE, STRING, 23, 24, 25}) {
            run.array(element).is(next);
            run.type(next, 0).is(3);
            run.type(next, 1).is(0);
            run.type(next, 2).is(element);
            next++;
        }
        run.count(0).is(36);
    }

    @Says("The ARRAY of a TYPE: its number (that which there is, if there is one).")
    static void thatWhichThereIs(Run run) {
        run.array(INT).is(23);
        run.array(23).is(24);
        run.newClass(NONE, NONE, false).is(25);
        run.array(25).is(26);
        run.array(INT).is(23);
        run.array(23).is(24);
        run.array(25).is(26);
        run.count(0).is(27);
        run.type(NULL, 3).is(19);
    }

    @Says("The ARRAY of a TYPE: its number (that which there is, if there is one).")
    static void thatWhichThereIsAlsoWhereNoMoreMayCome(Run run) {
        run.array(BOOLEAN).is(23);
        run.fillTypes(24);
        run.array(BOOLEAN).is(23);
        run.count(0).is(40);
    }

    @Says("The ARRAY of a TYPE: its number (that which there is, if there is one).")
    static void thatWhichThereIsMayBeTheLastType(Run run) {
        run.newClass(NONE, NONE, false).is(23);
        for (int t = 24; t < 39; t++) {
            run.newInterface(NONE, NONE).is(t);
        }
        run.array(38).is(39);
        run.array(38).is(39);
        run.type(39, 2).is(38);
        run.count(0).is(40);
    }

    @Says("above an ARRAY Object, Cloneable, Serializable")
    static void hasTheseAbove(Run run) {
        run.array(INT).is(23);
        run.under(23, OBJECT).is(1);
        run.under(23, CLONEABLE).is(1);
        run.under(23, SERIALIZABLE).is(1);
        run.under(23, COMPARABLE).is(0);
        run.under(23, NUMBER).is(0);
        run.type(23, 3).is(4);
    }

    @Says("BAD (-1) there is no such TYPE, OBJECT, context")
    static void ofNoType(Run run) {
        run.newClass(NONE, NONE, false).is(23);
        run.array(-1).refused(BAD);
        run.array(-2).refused(BAD);
        for (int t : Names.noneOf(24)) {
            run.array(t).refused(BAD);
        }
    }

    @Says("OUTSIDE: of null.")
    static void ofNull(Run run) {
        run.array(NULL).refused(OUTSIDE);
        run.array(STRING).is(23);
        run.array(NULL).refused(OUTSIDE);
        run.array(23).is(24);
    }

    @Says("CLASSES, INTERFACES and ARRAYS told (40 TYPES at most)")
    static void the40thTypeIsTheLast(Run run) {
        int element = INT;
        for (int t = FIRST_TOLD; t < MOST_TYPES; t++) {
            element = run.array(element).is(t);
        }
        run.array(39).refused(FULL);
        run.array(LONG).refused(FULL);
        run.array(INT).is(23);
        run.array(38).is(39);
        run.count(0).is(40);
        run.type(39, 0).is(3);
    }

    @Says("of several the first one here: BAD (-1)")
    static void badIsAheadOfFull(Run run) {
        run.fillTypes(FIRST_TOLD);
        run.array(40).refused(BAD);
        run.array(-1).refused(BAD);
    }

    @Says("OUTSIDE (-2) as told; FULL (-3)")
    static void outsideIsAheadOfFull(Run run) {
        run.fillTypes(FIRST_TOLD);
        run.array(NULL).refused(OUTSIDE);
    }

    @Says("CLASSES, INTERFACES and ARRAYS told (40 TYPES at most)")
    static void noArrayAfter40OtherTypes(Run run) {
        run.fillTypes(FIRST_TOLD);
        run.array(INT).refused(FULL);
        run.array(39).refused(FULL);
    }

    @Says("Nothing is promised beyond the answers and state changes described above")
    static void thatWhichThereIsChangesNothing(Run run) {
        run.array(INT_BOX).is(23);
        run.array(NUMBER).is(24);
        run.array(INT_BOX).isAndChangesNothing(23);
        run.array(NUMBER).isAndChangesNothing(24);
    }
}
