/** Promise 13: conditional. */
public final class Promise13ConditionalTest implements Names {
    public static void main(String[] args) throws ReflectiveOperationException {
        Cases.run(Promise13ConditionalTest.class);
    }

    private static void conditional(Run run, int a, int b, int due) {
        run.conditional(a, b).is(due);
        run.conditional(b, a).is(due);
    }

    /** Each as itself or as its BOX. */
    private static void conditionalOfNumbers(Run run, int a, int b, int due) {
        for (int one : new int[] {a, a + 8}) {
            for (int two : new int[] {b, b + 8}) {
                conditional(run, one, two, due);
            }
        }
    }

    @Says("CONDITIONAL of two TYPES: the same: that")
    static void theSame(Run run) {
        run.newClass(NONE, NONE, true).is(23);
        run.newInterface(NONE, NONE).is(24);
        run.array(INT).is(25);
        for (int t = BOOLEAN; t <= 25; t++) {
            run.conditional(t, t).is(t);
        }
    }

    @Says("one PRIMITIVE, the other its BOX: the PRIMITIVE")
    static void aPrimitiveAndItsBox(Run run) {
        for (int t = BOOLEAN; t <= DOUBLE; t++) {
            conditional(run, t, t + 8, t);
        }
    }

    @Says("both, being unboxed where they are BOXES, NUMBERS: short of byte and short, else"
            + " PROMOTED")
    static void shortOfByteAndShort(Run run) {
        conditionalOfNumbers(run, BYTE, SHORT, SHORT);
    }

    @Says("both, being unboxed where they are BOXES, NUMBERS: short of byte and short, else"
            + " PROMOTED")
    static void elsePromoted(Run run) {
        conditionalOfNumbers(run, CHAR, BYTE, INT);
        conditionalOfNumbers(run, CHAR, SHORT, INT);
        for (int t = CHAR; t <= SHORT; t++) {
            conditionalOfNumbers(run, t, INT, INT);
        }
        for (int large = LONG; large <= DOUBLE; large++) {
            for (int t = CHAR; t < large; t++) {
                conditionalOfNumbers(run, t, large, large);
            }
        }
    }

    @Says("else, of a PRIMITIVE its BOX taken, null with a REFERENCE: that one")
    static void nullWithAReference(Run run) {
        run.newClass(NONE, NONE, true).is(23);
        run.newInterface(NONE, NONE).is(24);
        run.array(INT).is(25);
        for (int t = BOOLEAN_BOX; t <= 25; t++) {
            conditional(run, NULL, t, t);
        }
    }

    @Says("else, of a PRIMITIVE its BOX taken, null with a REFERENCE: that one")
    static void nullWithAPrimitive(Run run) {
        for (int t = BOOLEAN; t <= DOUBLE; t++) {
            conditional(run, NULL, t, t + 8);
        }
    }

    @Says("one UNDER the other: the other; else Object.")
    static void oneUnderTheOther(Run run) {
        run.newInterface(NONE, NONE).is(23);
        run.newClass(NONE, 23, false).is(24);
        run.newClass(24, NONE, true).is(25);
        run.array(25).is(26);
        run.array(23).is(27);
        conditional(run, 25, 24, 24);
        conditional(run, 25, 23, 23);
        conditional(run, 26, 27, 27);
        conditional(run, 26, CLONEABLE, CLONEABLE);
        conditional(run, INT_BOX, NUMBER, NUMBER);
        conditional(run, STRING, COMPARABLE, COMPARABLE);
        for (int t = BOOLEAN; t <= 27; t++) {
            conditional(run, t, OBJECT, OBJECT);
        }
    }

    @Says("else, of a PRIMITIVE its BOX taken, null with a REFERENCE: that one; one UNDER the"
            + " other: the other; else Object.")
    static void thePrimitivesBoxUnderTheOther(Run run) {
        for (int t = BOOLEAN; t <= DOUBLE; t++) {
            conditional(run, t, COMPARABLE, COMPARABLE);
            conditional(run, t, SERIALIZABLE, SERIALIZABLE);
            conditional(run, t, NUMBER, t >= BYTE ? NUMBER : OBJECT);
            conditional(run, t, CLONEABLE, OBJECT);
            conditional(run, t, STRING, OBJECT);
        }
    }

    @Says("one UNDER the other: the other; else Object.")
    static void elseObject(Run run) {
        run.newClass(NONE, COMPARABLE, false).is(23);
        run.newClass(NONE, COMPARABLE, false).is(24);
        run.array(23).is(25);
        run.array(24).is(26);
        run.array(INT).is(27);
        conditional(run, 23, 24, OBJECT);
        conditional(run, 25, 26, OBJECT);
        conditional(run, 25, 27, OBJECT);
        conditional(run, 27, INT, OBJECT);
        conditional(run, COMPARABLE, SERIALIZABLE, OBJECT);
        conditional(run, STRING, INT_BOX, OBJECT);
        conditional(run, STRING, 23, OBJECT);
    }

    @Says("both, being unboxed where they are BOXES, NUMBERS")
    static void booleanWithANumberIsObject(Run run) {
        for (int t = CHAR; t <= DOUBLE; t++) {
            conditionalOfNumbers(run, BOOLEAN, t, OBJECT);
        }
    }

    @Says("CLASSES, INTERFACES and ARRAYS told (40 TYPES at most)")
    static void theLastTypeAsAnyOther(Run run) {
        run.newInterface(NONE, NONE).is(23);
        for (int t = 24; t < 39; t++) {
            run.newClass(NONE, NONE, true).is(t);
        }
        run.newClass(NONE, 23, false).is(39);
        conditional(run, 39, 23, 23);
        conditional(run, 39, NULL, 39);
        conditional(run, 39, 38, OBJECT);
        conditional(run, 39, INT, OBJECT);
        run.conditional(39, 39).is(39);
        run.conditional(40, 40).refused(BAD);
    }

    @Says("BAD (-1) there is no such TYPE, OBJECT, context")
    static void oneIsNoType(Run run) {
        run.newClass(NONE, NONE, false).is(23);
        run.conditional(-1, INT).refused(BAD);
        run.conditional(INT, -1).refused(BAD);
        for (int t : Names.noneOf(24)) {
            run.conditional(t, NULL).refused(BAD);
            run.conditional(INT, t).refused(BAD);
            run.conditional(t, t).refused(BAD);
        }
    }

    @Says("Nothing is promised beyond the answers and state changes described above")
    static void askingChangesNothing(Run run) {
        run.newClass(NONE, NONE, false).is(23);
        run.conditional(23, STRING).isAndChangesNothing(OBJECT);
        run.conditional(NULL, INT).isAndChangesNothing(INT_BOX);
    }
}
