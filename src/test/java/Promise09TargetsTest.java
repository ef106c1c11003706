/** Promise 9: targets. */
public final class Promise09TargetsTest implements Names {
    public static void main(String[] args) throws ReflectiveOperationException {
        Cases.run(Promise09TargetsTest.class);
    }

    private static void targets(Run run, int from, int... due) {
        for (int context = 0; context < CONTEXTS; context++) {
            run.targets(from, context).is(due[context]);
        }
    }

    @Says("How many TYPES one may be brought to in a context (itself, too).")
    static void fromPrimitives(Run run) {
        targets(run, BOOLEAN, 1, 5, 5, 5, 1, 0);
        targets(run, CHAR, 5, 9, 9, 11, 1, 5);
        targets(run, BYTE, 6, 11, 11, 12, 1, 6);
        targets(run, SHORT, 5, 10, 10, 12, 1, 5);
        targets(run, INT, 4, 9, 9, 12, 1, 4);
        targets(run, LONG, 3, 8, 8, 12, 1, 3);
        targets(run, FLOAT, 2, 7, 7, 12, 1, 2);
        targets(run, DOUBLE, 1, 6, 6, 12, 1, 1);
    }

    @Says("How many TYPES one may be brought to in a context (itself, too).")
    static void fromBoxes(Run run) {
        targets(run, BOOLEAN_BOX, 4, 5, 5, 5, 1, 0);
        targets(run, CHAR_BOX, 4, 9, 9, 9, 1, 5);
        targets(run, BYTE_BOX, 5, 11, 11, 11, 1, 6);
        targets(run, SHORT_BOX, 5, 10, 10, 10, 1, 5);
        targets(run, INT_BOX, 5, 9, 9, 9, 1, 4);
        targets(run, LONG_BOX, 5, 8, 8, 8, 1, 3);
        targets(run, FLOAT_BOX, 5, 7, 7, 7, 1, 2);
        targets(run, DOUBLE_BOX, 5, 6, 6, 6, 1, 1);
    }

    @Says("How many TYPES one may be brought to in a context (itself, too).")
    static void fromTheOtherKnownReferences(Run run) {
        // Object: all but null; 8 PRIMITIVE ones and 14 REFERENCES.
        targets(run, OBJECT, 1, 1, 1, 22, 1, 0);
        // Number: 2 .. 7 and their BOXES, 16 .. 20.
        targets(run, NUMBER, 3, 3, 3, 17, 1, 0);
        // Comparable: all PRIMITIVE ones, all BOXES, 16 .. 21.
        targets(run, COMPARABLE, 2, 2, 2, 22, 1, 0);
        targets(run, SERIALIZABLE, 2, 2, 2, 22, 1, 0);
        // Cloneable: 16 .. 20.
        targets(run, CLONEABLE, 2, 2, 2, 5, 1, 0);
        targets(run, STRING, 4, 4, 4, 4, 1, 0);
    }

    @Says("From null: 1 to itself, 9; to null nothing else.")
    static void fromNull(Run run) {
        targets(run, NULL, 15, 15, 15, 15, 1, 0);
        run.newClass(NONE, NONE, true).is(23);
        run.array(INT).is(24);
        targets(run, NULL, 17, 17, 17, 17, 1, 0);
    }

    @Says("How many TYPES one may be brought to in a context (itself, too).")
    static void typesToldCountAtOnce(Run run) {
        run.newClass(NONE, NONE, false).is(23);
        targets(run, 23, 2, 2, 2, 5, 1, 0);
        targets(run, OBJECT, 1, 1, 1, 23, 1, 0);
        run.newInterface(NONE, NONE).is(24);
        targets(run, 23, 2, 2, 2, 6, 1, 0);
        targets(run, 24, 2, 2, 2, 7, 1, 0);
        run.newClass(23, 24, true).is(25);
        targets(run, 25, 4, 4, 4, 4, 1, 0);
        targets(run, 23, 2, 2, 2, 7, 1, 0);
        run.array(25).is(26);
        targets(run, 26, 4, 4, 4, 4, 1, 0);
        run.array(24).is(27);
        targets(run, 26, 5, 5, 5, 5, 1, 0);
        targets(run, 27, 4, 4, 4, 5, 1, 0);
    }

    @Says("CLASSES, INTERFACES and ARRAYS told (40 TYPES at most)")
    static void theLastTypeCountsToo(Run run) {
        run.fillTypes(FIRST_TOLD);
        targets(run, OBJECT, 1, 1, 1, 39, 1, 0);
        targets(run, NULL, 32, 32, 32, 32, 1, 0);
        targets(run, 39, 2, 2, 2, 5, 1, 0);
        run.targets(40, STRICT).refused(BAD);
    }

    @Says("BAD (-1) there is no such TYPE, OBJECT, context")
    static void fromNoType(Run run) {
        run.newClass(NONE, NONE, false).is(23);
        for (int context = 0; context < CONTEXTS; context++) {
            run.targets(-1, context).refused(BAD);
            for (int t : Names.noneOf(24)) {
                run.targets(t, context).refused(BAD);
            }
        }
    }

    @Says("BAD (-1) there is no such TYPE, OBJECT, context")
    static void noSuchContext(Run run) {
        run.targets(INT, 5).is(4);
        run.targets(INT, -1).refused(BAD);
        for (int context : Names.noneOf(CONTEXTS)) {
            run.targets(INT, context).refused(BAD);
            run.targets(NULL, context).refused(BAD);
            run.targets(23, context).refused(BAD);
        }
    }

    @Says("Nothing is promised beyond the answers and state changes described above")
    static void askingChangesNothing(Run run) {
        run.targets(OBJECT, CASTING).isAndChangesNothing(22);
        run.targets(NULL, NUMERIC).isAndChangesNothing(0);
    }
}
