/** Promise 2: newClass. */
public final class Promise02NewClassTest implements Names {
    public static void main(String[] args) throws ReflectiveOperationException {
        Cases.run(Promise02NewClassTest.class);
    }

    @Says("FINAL or not: its number.")
    static void numbersFollowTheLastType(Run run) {
        run.newClass(OBJECT, NONE, false).is(23);
        run.newInterface(NONE, NONE).is(24);
        run.array(INT).is(25);
        run.newClass(23, 24, true).is(26);
        run.newClass(23, 24, true).is(27);
        run.count(0).is(28);
        run.type(26, 0).is(1);
    }

    @Says("FINAL or not: its number.")
    static void isFinalOrNot(Run run) {
        run.newClass(NONE, NONE, true).is(23);
        run.newClass(NONE, NONE, false).is(24);
        run.type(23, 1).is(1);
        run.type(24, 1).is(0);
    }

    @Says("above it another CLASS (Object or one told; -1: Object)")
    static void noneAboveIsObject(Run run) {
        run.newClass(NONE, NONE, false).is(23);
        run.newClass(OBJECT, NONE, false).is(24);
        for (int t = 23; t <= 24; t++) {
            run.under(t, OBJECT).is(1);
            run.type(t, 3).is(2);
        }
        run.under(23, 24).is(0);
        run.under(24, 23).is(0);
    }

    @Says("above a CLASS told the one told (Object, if none is)")
    static void oneToldAboveBringsAllThatIsAboveIt(Run run) {
        run.newInterface(CLONEABLE, NONE).is(23);
        run.newClass(NONE, 23, false).is(24);
        run.newClass(24, NONE, false).is(25);
        run.newClass(25, NONE, true).is(26);
        for (int above : new int[] {26, 25, 24, 23, CLONEABLE, OBJECT}) {
            run.under(26, above).is(1);
        }
        run.type(26, 3).is(6);
        run.under(24, 25).is(0);
    }

    @Says("above it another CLASS (Object or one told; -1: Object)")
    static void aRowOfClassesUpToTheLastType(Run run) {
        run.newClass(NONE, NONE, false).is(23);
        for (int t = 24; t < MOST_TYPES; t++) {
            run.newClass(t - 1, NONE, false).is(t);
        }
        run.type(39, 3).is(18);
        run.under(39, 23).is(1);
        run.under(39, OBJECT).is(1);
        run.under(23, 39).is(0);
    }

    @Says("an INTERFACE (18 .. 20 or one told; -1: none)")
    static void eachInterfaceMayBeTold(Run run) {
        run.newInterface(NONE, NONE).is(23);
        int next = 24;
        for (int face : new int[] {COMPARABLE, SERIALIZABLE, CLONEABLE, 23}) {
            run.newClass(NONE, face, false).is(next);
            for (int other : new int[] {COMPARABLE, SERIALIZABLE, CLONEABLE, 23}) {
                run.under(next, other).is(face == other ? 1 : 0);
            }
            run.type(next, 3).is(3);
            next++;
        }
    }

    @Says("an INTERFACE (18 .. 20 or one told; -1: none)")
    static void noInterfaceIsToldByNone(Run run) {
        run.newClass(NONE, NONE, false).is(23);
        for (int face = COMPARABLE; face <= CLONEABLE; face++) {
            run.under(23, face).is(0);
        }
    }

    @Says("BAD (-1) there is no such TYPE, OBJECT, context")
    static void aboveIsNoType(Run run) {
        run.newClass(NONE, NONE, false).is(23);
        run.newClass(-2, NONE, false).refused(BAD);
        for (int above : Names.noneOf(24)) {
            run.newClass(above, NONE, false).refused(BAD);
            run.newClass(above, COMPARABLE, true).refused(BAD);
        }
        run.newClass(23, NONE, false).is(24);
    }

    @Says("BAD (-1) there is no such TYPE, OBJECT, context")
    static void theOtherIsNoType(Run run) {
        run.newInterface(NONE, NONE).is(23);
        run.newClass(NONE, -2, false).refused(BAD);
        for (int face : Names.noneOf(24)) {
            run.newClass(NONE, face, false).refused(BAD);
            run.newClass(OBJECT, face, true).refused(BAD);
        }
        run.newClass(NONE, 23, false).is(24);
    }

    @Says("OUTSIDE: above is no CLASS")
    static void aboveIsNoClass(Run run) {
        run.newInterface(NONE, NONE).is(23);
        run.array(OBJECT).is(24);
        for (int primitive = BOOLEAN; primitive <= DOUBLE; primitive++) {
            run.newClass(primitive, NONE, false).refused(OUTSIDE);
        }
        for (int above : new int[] {COMPARABLE, SERIALIZABLE, CLONEABLE, NULL, 23, 24}) {
            run.newClass(above, NONE, false).refused(OUTSIDE);
        }
    }

    @Says("is FINAL, Number, a BOX, String")
    static void aboveIsFinal(Run run) {
        run.newClass(NONE, NONE, true).is(23);
        run.newClass(23, NONE, false).refused(OUTSIDE);
        run.newClass(23, NONE, true).refused(OUTSIDE);
    }

    @Says("is FINAL, Number, a BOX, String")
    static void aboveIsNumber(Run run) {
        run.newClass(NUMBER, NONE, false).refused(OUTSIDE);
        run.newClass(NUMBER, COMPARABLE, true).refused(OUTSIDE);
    }

    @Says("is FINAL, Number, a BOX, String")
    static void aboveIsABox(Run run) {
        for (int box = BOOLEAN_BOX; box <= DOUBLE_BOX; box++) {
            run.newClass(box, NONE, false).refused(OUTSIDE);
        }
    }

    @Says("is FINAL, Number, a BOX, String")
    static void aboveIsString(Run run) {
        run.newClass(STRING, NONE, false).refused(OUTSIDE);
    }

    @Says("the other is no INTERFACE")
    static void theOtherIsNoInterface(Run run) {
        run.newClass(NONE, NONE, false).is(23);
        run.array(COMPARABLE).is(24);
        for (int other = BOOLEAN; other <= NUMBER; other++) {
            run.newClass(NONE, other, false).refused(OUTSIDE);
        }
        for (int other : new int[] {STRING, NULL, 23, 24}) {
            run.newClass(NONE, other, false).refused(OUTSIDE);
            run.newClass(23, other, true).refused(OUTSIDE);
        }
    }

    @Says("CLASSES, INTERFACES and ARRAYS told (40 TYPES at most)")
    static void the40thTypeIsTheLast(Run run) {
        for (int t = FIRST_TOLD; t < MOST_TYPES; t++) {
            run.newClass(NONE, NONE, false).is(t);
        }
        run.count(0).is(40);
        run.newClass(NONE, NONE, false).refused(FULL);
        run.newClass(39, CLONEABLE, true).refused(FULL);
        run.type(39, 0).is(1);
        run.type(40, 0).refused(BAD);
    }

    @Says("of several the first one here: BAD (-1)")
    static void badIsAheadOfOutside(Run run) {
        run.newClass(NUMBER, 23, false).refused(BAD);
        run.newClass(INT, -2, false).refused(BAD);
        run.newClass(23, STRING, false).refused(BAD);
        run.newClass(-2, INT, false).refused(BAD);
    }

    @Says("of several the first one here: BAD (-1)")
    static void badIsAheadOfFull(Run run) {
        run.fillTypes(FIRST_TOLD);
        run.newClass(40, NONE, false).refused(BAD);
        run.newClass(NONE, 40, false).refused(BAD);
        run.newClass(-2, NONE, false).refused(BAD);
        run.newClass(STRING, 40, false).refused(BAD);
    }

    @Says("OUTSIDE (-2) as told; FULL (-3)")
    static void outsideIsAheadOfFull(Run run) {
        run.fillTypes(FIRST_TOLD);
        run.newClass(NUMBER, NONE, false).refused(OUTSIDE);
        run.newClass(COMPARABLE, NONE, false).refused(OUTSIDE);
        run.newClass(NONE, 39, false).refused(OUTSIDE);
        run.newClass(39, OBJECT, true).refused(OUTSIDE);
    }
}
