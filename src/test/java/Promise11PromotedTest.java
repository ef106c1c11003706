/** Promise 11: promoted. */
public final class Promise11PromotedTest implements Names {
    public static void main(String[] args) throws ReflectiveOperationException {
        Cases.run(Promise11PromotedTest.class);
    }

    @Says("of one NUMBER (or BOX of one): int of char, byte, short; else itself.")
    static void intOfCharByteShort(Run run) {
        for (int t = CHAR; t <= SHORT; t++) {
            run.promoted(t).is(INT);
        }
    }

    @Says("of one NUMBER (or BOX of one): int of char, byte, short; else itself.")
    static void elseItself(Run run) {
        for (int t = INT; t <= DOUBLE; t++) {
            run.promoted(t).is(t);
        }
    }

    @Says("of one NUMBER (or BOX of one): int of char, byte, short; else itself.")
    static void ofABoxAsOfWhatIsInIt(Run run) {
        int[] due = {INT, INT, INT, INT, LONG, FLOAT, DOUBLE};
        for (int t = CHAR_BOX; t <= DOUBLE_BOX; t++) {
            run.promoted(t).is(due[t - CHAR_BOX]);
        }
    }

    @Says("BAD (-1) there is no such TYPE, OBJECT, context")
    static void ofNoType(Run run) {
        run.array(INT).is(23);
        run.promoted(-1).refused(BAD);
        for (int t : Names.noneOf(24)) {
            run.promoted(t).refused(BAD);
        }
    }

    @Says("OUTSIDE: no NUMBER, or BOX of one.")
    static void ofBooleanAndItsBox(Run run) {
        run.promoted(BOOLEAN).refused(OUTSIDE);
        run.promoted(BOOLEAN_BOX).refused(OUTSIDE);
    }

    @Says("OUTSIDE: no NUMBER, or BOX of one.")
    static void ofTheOtherReferences(Run run) {
        run.newClass(NONE, NONE, false).is(23);
        run.newInterface(NONE, NONE).is(24);
        run.array(INT).is(25);
        for (int t = OBJECT; t <= 25; t++) {
            run.promoted(t).refused(OUTSIDE);
        }
    }

    @Says("CLASSES, INTERFACES and ARRAYS told (40 TYPES at most)")
    static void ofTheLastTypeAndTheNext(Run run) {
        run.fillTypes(FIRST_TOLD);
        run.promoted(39).refused(OUTSIDE);
        run.promoted(40).refused(BAD);
    }

    @Says("Nothing is promised beyond the answers and state changes described above")
    static void askingChangesNothing(Run run) {
        run.promoted(CHAR_BOX).isAndChangesNothing(INT);
        run.promoted(DOUBLE).isAndChangesNothing(DOUBLE);
    }
}
