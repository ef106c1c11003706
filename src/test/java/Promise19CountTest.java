/** Promise 19: count. */
public final class Promise19CountTest implements Names {
    public static void main(String[] args) throws ReflectiveOperationException {
        Cases.run(Promise19CountTest.class);
    }

    private static void counts(Run run, int types, int objects) {
        run.count(0).is(types);
        run.count(1).is(objects);
    }

    @Says("How many TYPES (what = 0), OBJECTS (1).")
    static void growsWithWhatIsTold(Run run) {
        counts(run, 23, 0);
        run.newClass(NONE, NONE, false).is(23);
        counts(run, 24, 0);
        run.newInterface(NONE, NONE).is(24);
        counts(run, 25, 0);
        run.array(23).is(25);
        counts(run, 26, 0);
        run.array(23).is(25);
        counts(run, 26, 0);
        run.make(NULL).is(0);
        counts(run, 26, 1);
        run.box(INT_BOX, 5).is(1);
        counts(run, 26, 2);
    }

    @Says("REFUSALS change nothing")
    static void staysWhereACallIsRefused(Run run) {
        run.newClass(NUMBER, NONE, false).refused(OUTSIDE);
        run.newInterface(OBJECT, NONE).refused(OUTSIDE);
        run.array(NULL).refused(OUTSIDE);
        run.array(23).refused(BAD);
        run.make(NUMBER).refused(OUTSIDE);
        run.box(INT_BOX, 1L << 31).refused(OUTSIDE);
        run.box(23, 1).refused(BAD);
        counts(run, 23, 0);
    }

    @Says("OBJECTS (60 at most) are of a TYPE that they keep")
    static void isNoMoreThan40And60(Run run) {
        run.fillTypes(FIRST_TOLD);
        run.fillObjects(0);
        counts(run, 40, 60);
        run.newInterface(NONE, NONE).refused(FULL);
        run.array(INT).refused(FULL);
        run.make(OBJECT).refused(FULL);
        run.box(INT_BOX, 1).refused(FULL);
        counts(run, 40, 60);
    }

    @Says("OBJECTS (60 at most) are of a TYPE that they keep")
    static void typesMayComeWhereObjectsMayNot(Run run) {
        run.fillObjects(0);
        run.newClass(NONE, NONE, false).is(23);
        counts(run, 24, 60);
        Run other = run.another();
        other.fillTypes(FIRST_TOLD);
        other.make(39).is(0);
        counts(other, 40, 1);
    }

    @Says("How many TYPES (what = 0), OBJECTS (1). BAD.")
    static void anotherWhat(Run run) {
        run.make(NULL).is(0);
        for (int what : new int[] {Integer.MIN_VALUE, -3, -2, -1, 2, 3, 22, 40, 60,
            Integer.MAX_VALUE}) {
            run.count(what).refused(BAD);
        }
    }

    @Says("Nothing is promised beyond the answers and state changes described above")
    static void askingChangesNothing(Run run) {
        run.make(NULL).is(0);
        run.count(0).isAndChangesNothing(23);
        run.count(1).isAndChangesNothing(1);
    }
}
