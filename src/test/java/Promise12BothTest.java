/** Promise 12: both. */
public final class Promise12BothTest implements Names {
    public static void main(String[] args) throws ReflectiveOperationException {
        Cases.run(Promise12BothTest.class);
    }

    /** Either may come first, and each as itself or as its BOX. */
    private static void both(Run run, int a, int b, int due) {
        for (int one : new int[] {a, a + 8}) {
            for (int two : new int[] {b, b + 8}) {
                run.both(one, two).is(due);
                run.both(two, one).is(due);
            }
        }
    }

    @Says("Of two: double, if one is; else float; else long; else int.")
    static void doubleIfOneIs(Run run) {
        for (int t = CHAR; t <= DOUBLE; t++) {
            both(run, DOUBLE, t, DOUBLE);
        }
    }

    @Says("Of two: double, if one is; else float; else long; else int.")
    static void elseFloat(Run run) {
        for (int t = CHAR; t <= FLOAT; t++) {
            both(run, FLOAT, t, FLOAT);
        }
    }

    @Says("Of two: double, if one is; else float; else long; else int.")
    static void elseLong(Run run) {
        for (int t = CHAR; t <= LONG; t++) {
            both(run, LONG, t, LONG);
        }
    }

    @Says("Of two: double, if one is; else float; else long; else int.")
    static void elseInt(Run run) {
        for (int a = CHAR; a <= INT; a++) {
            for (int b = CHAR; b <= INT; b++) {
                both(run, a, b, INT);
            }
        }
    }

    @Says("BAD (-1) there is no such TYPE, OBJECT, context")
    static void oneIsNoType(Run run) {
        run.both(-1, INT).refused(BAD);
        run.both(INT, -1).refused(BAD);
        for (int t : Names.noneOf(23)) {
            run.both(t, INT).refused(BAD);
            run.both(INT, t).refused(BAD);
            run.both(t, t).refused(BAD);
        }
    }

    @Says("OUTSIDE: no NUMBER, or BOX of one.")
    static void theFirstIsNoNumber(Run run) {
        run.newClass(NONE, NONE, false).is(23);
        run.array(INT).is(24);
        run.both(BOOLEAN, INT).refused(OUTSIDE);
        run.both(BOOLEAN_BOX, DOUBLE).refused(OUTSIDE);
        for (int t = OBJECT; t <= 24; t++) {
            run.both(t, INT).refused(OUTSIDE);
            run.both(t, DOUBLE_BOX).refused(OUTSIDE);
        }
    }

    @Says("OUTSIDE: no NUMBER, or BOX of one.")
    static void theSecondIsNoNumber(Run run) {
        run.newClass(NONE, NONE, false).is(23);
        run.array(INT).is(24);
        run.both(INT, BOOLEAN).refused(OUTSIDE);
        run.both(DOUBLE, BOOLEAN_BOX).refused(OUTSIDE);
        for (int t = OBJECT; t <= 24; t++) {
            run.both(INT, t).refused(OUTSIDE);
            run.both(DOUBLE_BOX, t).refused(OUTSIDE);
        }
    }

    @Says("OUTSIDE: no NUMBER, or BOX of one.")
    static void bothAreNoNumbers(Run run) {
        run.both(BOOLEAN, BOOLEAN).refused(OUTSIDE);
        run.both(BOOLEAN, BOOLEAN_BOX).refused(OUTSIDE);
        run.both(NULL, NULL).refused(OUTSIDE);
        run.both(NUMBER, STRING).refused(OUTSIDE);
    }

    @Says("of several the first one here: BAD (-1)")
    static void badIsAheadOfOutside(Run run) {
        run.both(BOOLEAN, 23).refused(BAD);
        run.both(23, STRING).refused(BAD);
        run.both(NULL, -1).refused(BAD);
    }

    @Says("Nothing is promised beyond the answers and state changes described above")
    static void askingChangesNothing(Run run) {
        run.both(CHAR_BOX, LONG).isAndChangesNothing(LONG);
        run.both(BYTE, BYTE).isAndChangesNothing(INT);
    }
}
