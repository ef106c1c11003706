/** Promise 3: newInterface. */
public final class Promise03NewInterfaceTest implements Names {
    public static void main(String[] args) throws ReflectiveOperationException {
        Cases.run(Promise03NewInterfaceTest.class);
    }

    @Says("An INTERFACE, and one or two above it (-1: none): its number.")
    static void numbersFollowTheLastType(Run run) {
        run.newInterface(NONE, NONE).is(23);
        run.newClass(NONE, NONE, false).is(24);
        run.newInterface(NONE, NONE).is(25);
        run.type(25, 0).is(2);
        run.type(25, 1).is(0);
        run.count(0).is(26);
    }

    @Says("above INTERFACES Object")
    static void objectIsAboveIfNoneIsTold(Run run) {
        run.newInterface(NONE, NONE).is(23);
        run.under(23, OBJECT).is(1);
        run.type(23, 3).is(2);
    }

    @Says("An INTERFACE, and one or two above it (-1: none): its number.")
    static void theFirstAlone(Run run) {
        run.newInterface(SERIALIZABLE, NONE).is(23);
        run.under(23, SERIALIZABLE).is(1);
        run.type(23, 3).is(3);
    }

    @Says("An INTERFACE, and one or two above it (-1: none): its number.")
    static void theSecondAlone(Run run) {
        run.newInterface(NONE, SERIALIZABLE).is(23);
        run.under(23, SERIALIZABLE).is(1);
        run.type(23, 3).is(3);
    }

    @Says("an INTERFACE told has those told, too")
    static void twoAndWhatIsAboveThem(Run run) {
        run.newInterface(COMPARABLE, NONE).is(23);
        run.newInterface(CLONEABLE, COMPARABLE).is(24);
        run.newInterface(23, 24).is(25);
        for (int above : new int[] {25, 24, 23, CLONEABLE, COMPARABLE, OBJECT}) {
            run.under(25, above).is(1);
        }
        run.type(25, 3).is(6);
        run.under(23, 25).is(0);
        run.under(24, 25).is(0);
    }

    @Says("An INTERFACE, and one or two above it (-1: none): its number.")
    static void twiceTheSame(Run run) {
        run.newInterface(CLONEABLE, CLONEABLE).is(23);
        run.type(23, 3).is(3);
    }

    @Says("An INTERFACE, and one or two above it (-1: none): its number.")
    static void aRowOfInterfacesUpToTheLastType(Run run) {
        run.newInterface(COMPARABLE, NONE).is(23);
        for (int t = 24; t < MOST_TYPES; t++) {
            run.newInterface(NONE, t - 1).is(t);
        }
        run.type(39, 3).is(19);
        run.under(39, COMPARABLE).is(1);
    }

    @Says("BAD (-1) there is no such TYPE, OBJECT, context")
    static void theFirstIsNoType(Run run) {
        run.newInterface(-2, NONE).refused(BAD);
        for (int one : Names.noneOf(23)) {
            run.newInterface(one, NONE).refused(BAD);
            run.newInterface(one, COMPARABLE).refused(BAD);
        }
    }

    @Says("BAD (-1) there is no such TYPE, OBJECT, context")
    static void theSecondIsNoType(Run run) {
        run.newInterface(NONE, -2).refused(BAD);
        for (int two : Names.noneOf(23)) {
            run.newInterface(NONE, two).refused(BAD);
            run.newInterface(COMPARABLE, two).refused(BAD);
        }
    }

    @Says("OUTSIDE: one is no INTERFACE.")
    static void theFirstIsNoInterface(Run run) {
        run.newClass(NONE, NONE, false).is(23);
        run.array(COMPARABLE).is(24);
        for (int t = BOOLEAN; t <= NUMBER; t++) {
            run.newInterface(t, NONE).refused(OUTSIDE);
        }
        for (int t : new int[] {STRING, NULL, 23, 24}) {
            run.newInterface(t, NONE).refused(OUTSIDE);
            run.newInterface(t, CLONEABLE).refused(OUTSIDE);
        }
    }

    @Says("OUTSIDE: one is no INTERFACE.")
    static void theSecondIsNoInterface(Run run) {
        run.newClass(NONE, NONE, false).is(23);
        run.array(COMPARABLE).is(24);
        for (int t = BOOLEAN; t <= NUMBER; t++) {
            run.newInterface(NONE, t).refused(OUTSIDE);
        }
        for (int t : new int[] {STRING, NULL, 23, 24}) {
            run.newInterface(NONE, t).refused(OUTSIDE);
            run.newInterface(CLONEABLE, t).refused(OUTSIDE);
        }
    }

    @Says("CLASSES, INTERFACES and ARRAYS told (40 TYPES at most)")
    static void the40thTypeIsTheLast(Run run) {
        for (int t = FIRST_TOLD; t < MOST_TYPES; t++) {
            run.newInterface(NONE, NONE).is(t);
        }
        run.newInterface(NONE, NONE).refused(FULL);
        run.newInterface(39, COMPARABLE).refused(FULL);
        run.count(0).is(40);
        run.type(39, 0).is(2);
    }

    @Says("of several the first one here: BAD (-1)")
    static void badIsAheadOfOutside(Run run) {
        run.newInterface(OBJECT, 23).refused(BAD);
        run.newInterface(23, OBJECT).refused(BAD);
        run.newInterface(-2, INT).refused(BAD);
        run.newInterface(INT, -2).refused(BAD);
    }

    @Says("of several the first one here: BAD (-1)")
    static void badIsAheadOfFull(Run run) {
        run.fillTypes(FIRST_TOLD);
        run.newInterface(40, NONE).refused(BAD);
        run.newInterface(NONE, 40).refused(BAD);
        run.newInterface(OBJECT, 40).refused(BAD);
    }

    @Says("OUTSIDE (-2) as told; FULL (-3)")
    static void outsideIsAheadOfFull(Run run) {
        run.fillTypes(FIRST_TOLD);
        run.newInterface(39, NONE).refused(OUTSIDE);
        run.newInterface(NONE, STRING).refused(OUTSIDE);
    }
}
