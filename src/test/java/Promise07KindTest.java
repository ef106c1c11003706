/** Promise 7: kind. */
public final class Promise07KindTest implements Names {
    /** From each NUMBER, in their row, to which ones the document tells WIDER. */
    private static final int[][] WIDER_OF = {
        {},
        {INT, LONG, FLOAT, DOUBLE},
        {SHORT, INT, LONG, FLOAT, DOUBLE},
        {INT, LONG, FLOAT, DOUBLE},
        {LONG, FLOAT, DOUBLE},
        {FLOAT, DOUBLE},
        {DOUBLE},
        {}
    };

    public static void main(String[] args) throws ReflectiveOperationException {
        Cases.run(Promise07KindTest.class);
    }

    private static boolean isWider(int from, int to) {
        for (int wider : WIDER_OF[from]) {
            if (wider == to) {
                return true;
            }
        }
        return false;
    }

    /** Holds one pair against the KINDS due in STRICT, LOOSE, GIVING, CASTING, TEXT, NUMERIC. */
    private static void kinds(Run run, int from, int to, int... due) {
        for (int context = 0; context < CONTEXTS; context++) {
            run.kind(from, to, context).is(due[context]);
        }
    }

    /** A step that CASTING alone allows; TEXT has a way to String from anywhere. */
    private static void castingAlone(Run run, int from, int to, int kind) {
        kinds(run, from, to, 0, 0, 0, kind, to == STRING ? TO_TEXT : 0, 0);
    }

    private static void goesDown(Run run, int from, int to) {
        castingAlone(run, from, to, DOWN);
    }

    private static void goesUp(Run run, int from, int to) {
        kinds(run, from, to, UP, UP, UP, UP, to == STRING ? TO_TEXT : 0, 0);
    }

    private static void nothing(Run run, int from, int to) {
        castingAlone(run, from, to, 0);
    }

    @Says("told by a KIND, the first in this row: 1 the same TYPE")
    static void theSameType(Run run) {
        run.newClass(NONE, NONE, true).is(23);
        run.newInterface(NONE, NONE).is(24);
        run.array(24).is(25);
        for (int t = BOOLEAN; t <= 25; t++) {
            boolean isNumber = t >= CHAR && t <= DOUBLE;
            kinds(run, t, t, SAME, SAME, SAME, SAME, t == STRING ? SAME : 0, isNumber ? SAME : 0);
        }
    }

    @Says("byte to short, int, long, float, double; short to int .. double; char to int .. double;"
            + " int to long, float, double; long to float, double; float to double.")
    static void wider(Run run) {
        for (int from = CHAR; from <= DOUBLE; from++) {
            for (int to : WIDER_OF[from]) {
                kinds(run, from, to, WIDER, WIDER, WIDER, WIDER, 0, WIDER);
            }
        }
    }

    @Says("NARROWER: of two NUMBERS any other pair")
    static void narrower(Run run) {
        for (int from = CHAR; from <= DOUBLE; from++) {
            for (int to = CHAR; to <= DOUBLE; to++) {
                boolean isMixed = from == BYTE && to == CHAR;
                if (from != to && !isWider(from, to) && !isMixed) {
                    castingAlone(run, from, to, NARROWER);
                }
            }
        }
    }

    @Says("but byte to char: that is MIXED.")
    static void byteToCharIsMixed(Run run) {
        castingAlone(run, BYTE, CHAR, MIXED);
        castingAlone(run, CHAR, BYTE, NARROWER);
        castingAlone(run, SHORT, CHAR, NARROWER);
        castingAlone(run, CHAR, SHORT, NARROWER);
    }

    @Says("NARROWER: of two NUMBERS any other pair")
    static void booleanIsNoNumber(Run run) {
        for (int t = CHAR; t <= DOUBLE; t++) {
            nothing(run, BOOLEAN, t);
            nothing(run, t, BOOLEAN);
        }
    }

    @Says("BOXING: to its own BOX.")
    static void boxing(Run run) {
        for (int t = BOOLEAN; t <= DOUBLE; t++) {
            kinds(run, t, t + 8, 0, BOXING, BOXING, BOXING, 0, 0);
        }
    }

    @Says("BOXING: to its own BOX.")
    static void boxingToNoOtherBox(Run run) {
        for (int t = BOOLEAN; t <= DOUBLE; t++) {
            for (int box = BOOLEAN_BOX; box <= DOUBLE_BOX; box++) {
                if (box != t + 8) {
                    run.kind(t, box, LOOSE).is(0);
                    run.kind(t, box, CASTING).is(0);
                }
            }
        }
    }

    @Says("6 BOXING, then UP")
    static void boxingThenUp(Run run) {
        for (int t = BOOLEAN; t <= DOUBLE; t++) {
            for (int to : new int[] {OBJECT, COMPARABLE, SERIALIZABLE}) {
                kinds(run, t, to, 0, BOXING_UP, BOXING_UP, BOXING_UP, 0, 0);
            }
            int toNumber = t >= BYTE ? BOXING_UP : 0;
            kinds(run, t, NUMBER, 0, toNumber, toNumber, toNumber, 0, 0);
            nothing(run, t, CLONEABLE);
            nothing(run, t, STRING);
        }
    }

    @Says("6 BOXING, then UP")
    static void boxingThenUpToNoneTold(Run run) {
        run.newClass(NONE, COMPARABLE, false).is(23);
        run.newInterface(COMPARABLE, NONE).is(24);
        run.array(INT_BOX).is(25);
        for (int to = 23; to <= 25; to++) {
            nothing(run, INT, to);
            nothing(run, BOOLEAN, to);
        }
    }

    @Says("UNBOXING: back.")
    static void unboxing(Run run) {
        for (int t = BOOLEAN; t <= DOUBLE; t++) {
            int numeric = t == BOOLEAN ? 0 : UNBOXING;
            kinds(run, t + 8, t, 0, UNBOXING, UNBOXING, UNBOXING, 0, numeric);
        }
    }

    @Says("8 UNBOXING, then WIDER")
    static void unboxingThenWider(Run run) {
        for (int from = CHAR; from <= DOUBLE; from++) {
            for (int to : WIDER_OF[from]) {
                kinds(run, from + 8, to, 0, UNBOXING_WIDER, UNBOXING_WIDER, UNBOXING_WIDER, 0,
                        UNBOXING_WIDER);
            }
        }
    }

    @Says("8 UNBOXING, then WIDER")
    static void unboxingThenNothingElse(Run run) {
        for (int from = BOOLEAN; from <= DOUBLE; from++) {
            for (int to = BOOLEAN; to <= DOUBLE; to++) {
                if (from != to && !isWider(from, to)) {
                    nothing(run, from + 8, to);
                }
            }
        }
    }

    @Says("UP: S is UNDER T, and another one.")
    static void up(Run run) {
        run.newInterface(SERIALIZABLE, NONE).is(23);
        run.newClass(NONE, 23, true).is(24);
        run.array(24).is(25);
        run.array(23).is(26);
        goesUp(run, INT_BOX, NUMBER);
        goesUp(run, BOOLEAN_BOX, COMPARABLE);
        goesUp(run, STRING, OBJECT);
        goesUp(run, NUMBER, SERIALIZABLE);
        goesUp(run, CLONEABLE, OBJECT);
        goesUp(run, 23, SERIALIZABLE);
        goesUp(run, 24, 23);
        goesUp(run, 24, OBJECT);
        goesUp(run, 25, 26);
        goesUp(run, 25, CLONEABLE);
    }

    @Says("S not UNDER T: T is UNDER S")
    static void downToWhatIsUnder(Run run) {
        run.newInterface(NONE, NONE).is(23);
        run.newClass(NONE, 23, false).is(24);
        run.newClass(24, NONE, true).is(25);
        run.array(INT).is(26);
        goesDown(run, OBJECT, INT_BOX);
        goesDown(run, OBJECT, STRING);
        goesDown(run, OBJECT, CLONEABLE);
        goesDown(run, NUMBER, DOUBLE_BOX);
        goesDown(run, COMPARABLE, STRING);
        goesDown(run, SERIALIZABLE, NUMBER);
        goesDown(run, 24, 25);
        goesDown(run, 23, 25);
        goesDown(run, OBJECT, 26);
        goesDown(run, CLONEABLE, 26);
        goesDown(run, SERIALIZABLE, 26);
    }

    @Says("or both are INTERFACES")
    static void downAmongInterfaces(Run run) {
        run.newInterface(NONE, NONE).is(23);
        run.newInterface(23, NONE).is(24);
        goesDown(run, COMPARABLE, SERIALIZABLE);
        goesDown(run, CLONEABLE, COMPARABLE);
        goesDown(run, 23, COMPARABLE);
        goesDown(run, CLONEABLE, 24);
        goesDown(run, 23, 24);
        goesUp(run, 24, 23);
    }

    @Says("or one is an INTERFACE and the other a CLASS that is not FINAL")
    static void downFromAnInterfaceToAnOpenClassAndBack(Run run) {
        run.newInterface(NONE, NONE).is(23);
        run.newClass(NONE, NONE, false).is(24);
        for (int face : new int[] {23, COMPARABLE, CLONEABLE}) {
            goesDown(run, face, 24);
            goesDown(run, 24, face);
            goesDown(run, NUMBER, face);
            goesDown(run, face, NUMBER);
            goesDown(run, OBJECT, face);
        }
    }

    @Says("or one is an INTERFACE and the other a CLASS that is not FINAL")
    static void noWayFromAnInterfaceToAFinalClassNorBack(Run run) {
        run.newInterface(NONE, NONE).is(23);
        run.newClass(NONE, COMPARABLE, true).is(24);
        for (int face : new int[] {23, CLONEABLE}) {
            for (int closed : new int[] {24, BOOLEAN_BOX, DOUBLE_BOX, STRING}) {
                nothing(run, face, closed);
                nothing(run, closed, face);
            }
        }
        goesDown(run, COMPARABLE, 24);
        nothing(run, SERIALIZABLE, 24);
    }

    @Says("or one is an INTERFACE and the other a CLASS that is not FINAL")
    static void noWayFromAnInterfaceToAnArrayNorBack(Run run) {
        run.newInterface(NONE, NONE).is(23);
        run.array(23).is(24);
        nothing(run, 23, 24);
        nothing(run, 24, 23);
        nothing(run, COMPARABLE, 24);
        nothing(run, 24, COMPARABLE);
    }

    @Says("DOWN, of REFERENCES, neither null, S not UNDER T")
    static void noWayAmongClassesSideBySide(Run run) {
        run.newClass(NONE, NONE, false).is(23);
        run.newClass(NONE, NONE, false).is(24);
        run.array(23).is(25);
        nothing(run, 23, 24);
        nothing(run, 23, STRING);
        nothing(run, STRING, 23);
        nothing(run, NUMBER, STRING);
        nothing(run, NUMBER, CHAR_BOX);
        nothing(run, NUMBER, BOOLEAN_BOX);
        nothing(run, INT_BOX, LONG_BOX);
        nothing(run, 23, 25);
        nothing(run, 25, 23);
        nothing(run, STRING, 25);
    }

    @Says("or both are ARRAYS of REFERENCES and the one's ELEMENTS go UP or DOWN to the other's")
    static void downAmongArrays(Run run) {
        int face = run.newInterface(NONE, NONE).is(23);
        int open = run.newClass(NONE, NONE, false).is(24);
        int faces = run.array(face).is(25);
        int opens = run.array(open).is(26);
        int comparables = run.array(COMPARABLE).is(27);
        int objects = run.array(OBJECT).is(28);
        int faces2 = run.array(faces).is(29);
        int opens2 = run.array(opens).is(30);
        goesDown(run, faces, opens);
        goesDown(run, opens, faces);
        goesDown(run, faces, comparables);
        goesDown(run, objects, opens);
        goesUp(run, opens, objects);
        goesDown(run, faces2, opens2);
        goesDown(run, opens2, faces2);
        goesDown(run, objects, opens2);
        goesUp(run, opens2, objects);
    }

    @Says("or both are ARRAYS of REFERENCES and the one's ELEMENTS go UP or DOWN to the other's")
    static void downAmongArraysAsDeepAsTheyMayBe(Run run) {
        run.array(COMPARABLE).is(23);
        run.array(NUMBER).is(24);
        for (int t = 25; t < MOST_TYPES; t++) {
            run.array(t - 2).is(t);
        }
        goesDown(run, 38, 37);
        goesDown(run, 37, 38);
        nothing(run, 38, 39);
        nothing(run, 39, 37);
    }

    @Says("or both are ARRAYS of REFERENCES and the one's ELEMENTS go UP or DOWN to the other's")
    static void noWayAmongArraysWhoseElementsHaveNone(Run run) {
        int face = run.newInterface(NONE, NONE).is(23);
        int closed = run.newClass(NONE, NONE, true).is(24);
        int open = run.newClass(NONE, NONE, false).is(25);
        int faces = run.array(face).is(26);
        int closeds = run.array(closed).is(27);
        int opens = run.array(open).is(28);
        int faces2 = run.array(faces).is(29);
        int comparables = run.array(COMPARABLE).is(30);
        nothing(run, faces, closeds);
        nothing(run, closeds, faces);
        nothing(run, opens, closeds);
        nothing(run, faces2, faces);
        nothing(run, faces2, opens);
        nothing(run, comparables, faces2);
    }

    @Says("or both are ARRAYS of REFERENCES and the one's ELEMENTS go UP or DOWN to the other's")
    static void noWayAmongArraysOfPrimitives(Run run) {
        int ints = run.array(INT).is(23);
        int longs = run.array(LONG).is(24);
        int integers = run.array(INT_BOX).is(25);
        int objects = run.array(OBJECT).is(26);
        int ints2 = run.array(ints).is(27);
        int longs2 = run.array(longs).is(28);
        nothing(run, ints, longs);
        nothing(run, longs, ints);
        nothing(run, ints, integers);
        nothing(run, integers, ints);
        nothing(run, objects, ints);
        nothing(run, ints, objects);
        nothing(run, ints2, longs2);
        nothing(run, ints2, integers);
        goesDown(run, objects, ints2);
        goesUp(run, ints2, objects);
    }

    @Says("11 DOWN to a BOX, then UNBOXING")
    static void downToABoxThenUnboxing(Run run) {
        for (int t = BOOLEAN; t <= DOUBLE; t++) {
            castingAlone(run, OBJECT, t, DOWN_UNBOXING);
            castingAlone(run, COMPARABLE, t, DOWN_UNBOXING);
            castingAlone(run, SERIALIZABLE, t, DOWN_UNBOXING);
            castingAlone(run, NUMBER, t, t >= BYTE ? DOWN_UNBOXING : 0);
        }
    }

    @Says("11 DOWN to a BOX, then UNBOXING")
    static void noWayDownToABoxFromTheOthers(Run run) {
        run.newClass(NONE, COMPARABLE, false).is(23);
        run.newInterface(COMPARABLE, NONE).is(24);
        run.array(INT_BOX).is(25);
        for (int from : new int[] {CLONEABLE, STRING, NULL, 23, 24, 25}) {
            nothing(run, from, BOOLEAN);
            nothing(run, from, INT);
            nothing(run, from, DOUBLE);
        }
    }

    @Says("0 STRICT: 1, 2, 9.")
    static void strict(Run run) {
        run.kind(INT, INT, STRICT).is(SAME);
        run.kind(INT, LONG, STRICT).is(WIDER);
        run.kind(INT, SHORT, STRICT).is(0);
        run.kind(BYTE, CHAR, STRICT).is(0);
        run.kind(INT, INT_BOX, STRICT).is(0);
        run.kind(INT, NUMBER, STRICT).is(0);
        run.kind(INT_BOX, INT, STRICT).is(0);
        run.kind(INT_BOX, LONG, STRICT).is(0);
        run.kind(INT_BOX, NUMBER, STRICT).is(UP);
        run.kind(NUMBER, INT_BOX, STRICT).is(0);
        run.kind(NUMBER, INT, STRICT).is(0);
        run.kind(INT, STRING, STRICT).is(0);
    }

    @Says("1 LOOSE: these and 5 to 8. 2 GIVING: as LOOSE (constants: below).")
    static void looseAndGiving(Run run) {
        for (int context = LOOSE; context <= GIVING; context++) {
            run.kind(INT, INT, context).is(SAME);
            run.kind(INT, LONG, context).is(WIDER);
            run.kind(INT, SHORT, context).is(0);
            run.kind(BYTE, CHAR, context).is(0);
            run.kind(INT, INT_BOX, context).is(BOXING);
            run.kind(INT, NUMBER, context).is(BOXING_UP);
            run.kind(INT_BOX, INT, context).is(UNBOXING);
            run.kind(INT_BOX, LONG, context).is(UNBOXING_WIDER);
            run.kind(INT_BOX, NUMBER, context).is(UP);
            run.kind(NUMBER, INT_BOX, context).is(0);
            run.kind(NUMBER, INT, context).is(0);
            run.kind(INT, STRING, context).is(0);
        }
    }

    @Says("3 CASTING: 1 to 11.")
    static void casting(Run run) {
        run.kind(INT, INT, CASTING).is(SAME);
        run.kind(INT, LONG, CASTING).is(WIDER);
        run.kind(INT, SHORT, CASTING).is(NARROWER);
        run.kind(BYTE, CHAR, CASTING).is(MIXED);
        run.kind(INT, INT_BOX, CASTING).is(BOXING);
        run.kind(INT, NUMBER, CASTING).is(BOXING_UP);
        run.kind(INT_BOX, INT, CASTING).is(UNBOXING);
        run.kind(INT_BOX, LONG, CASTING).is(UNBOXING_WIDER);
        run.kind(INT_BOX, NUMBER, CASTING).is(UP);
        run.kind(NUMBER, INT_BOX, CASTING).is(DOWN);
        run.kind(NUMBER, INT, CASTING).is(DOWN_UNBOXING);
        run.kind(INT, STRING, CASTING).is(0);
        run.kind(INT_BOX, STRING, CASTING).is(0);
    }

    @Says("4 TEXT: to String alone: 12 from any TYPE but String (1), null, too.")
    static void textFromAnyType(Run run) {
        run.newClass(NONE, NONE, true).is(23);
        run.newInterface(NONE, NONE).is(24);
        run.array(STRING).is(25);
        for (int from = BOOLEAN; from <= 25; from++) {
            run.kind(from, STRING, TEXT).is(from == STRING ? SAME : TO_TEXT);
        }
    }

    @Says("4 TEXT: to String alone: 12 from any TYPE but String (1), null, too.")
    static void textToNothingElse(Run run) {
        run.newClass(NONE, NONE, false).is(23);
        run.array(STRING).is(24);
        for (int to = BOOLEAN; to <= 24; to++) {
            if (to != STRING) {
                run.kind(to, to, TEXT).is(0);
                run.kind(STRING, to, TEXT).is(0);
                run.kind(NULL, to, TEXT).is(0);
                run.kind(INT, to, TEXT).is(0);
            }
        }
    }

    @Says("5 NUMERIC: to a NUMBER: 1, 2, 7, 8.")
    static void numericToNumbers(Run run) {
        run.kind(INT, INT, NUMERIC).is(SAME);
        run.kind(CHAR, INT, NUMERIC).is(WIDER);
        run.kind(CHAR_BOX, CHAR, NUMERIC).is(UNBOXING);
        run.kind(CHAR_BOX, INT, NUMERIC).is(UNBOXING_WIDER);
        run.kind(LONG, INT, NUMERIC).is(0);
        run.kind(BYTE, CHAR, NUMERIC).is(0);
        for (int to = CHAR; to <= DOUBLE; to++) {
            run.kind(OBJECT, to, NUMERIC).is(0);
            run.kind(NUMBER, to, NUMERIC).is(0);
            run.kind(STRING, to, NUMERIC).is(0);
            run.kind(BOOLEAN_BOX, to, NUMERIC).is(0);
        }
    }

    @Says("5 NUMERIC: to a NUMBER: 1, 2, 7, 8.")
    static void numericToNothingElse(Run run) {
        run.newClass(NONE, NONE, false).is(23);
        run.array(INT).is(24);
        run.kind(BOOLEAN, BOOLEAN, NUMERIC).is(0);
        run.kind(BOOLEAN_BOX, BOOLEAN, NUMERIC).is(0);
        for (int to = BOOLEAN_BOX; to <= 24; to++) {
            run.kind(to, to, NUMERIC).is(0);
            run.kind(INT, to, NUMERIC).is(0);
            run.kind(INT_BOX, to, NUMERIC).is(0);
            run.kind(NULL, to, NUMERIC).is(0);
        }
    }

    @Says("From null: 1 to itself, 9; to null nothing else.")
    static void fromNull(Run run) {
        run.newClass(NONE, NONE, true).is(23);
        run.newInterface(NONE, NONE).is(24);
        run.array(INT).is(25);
        for (int to = BOOLEAN; to <= DOUBLE; to++) {
            nothing(run, NULL, to);
        }
        for (int to = BOOLEAN_BOX; to <= 25; to++) {
            if (to != NULL) {
                goesUp(run, NULL, to);
            }
        }
        kinds(run, NULL, NULL, SAME, SAME, SAME, SAME, 0, 0);
    }

    @Says("From null: 1 to itself, 9; to null nothing else.")
    static void toNull(Run run) {
        run.newClass(NONE, NONE, false).is(23);
        run.newInterface(NONE, NONE).is(24);
        run.array(OBJECT).is(25);
        for (int from = BOOLEAN; from <= 25; from++) {
            if (from != NULL) {
                nothing(run, from, NULL);
            }
        }
    }

    @Says("CLASSES, INTERFACES and ARRAYS told (40 TYPES at most)")
    static void theLastTypeAsAnyOther(Run run) {
        run.newInterface(NONE, NONE).is(23);
        for (int t = 24; t < 39; t++) {
            run.newClass(NONE, NONE, true).is(t);
        }
        run.newClass(NONE, 23, false).is(39);
        goesUp(run, 39, 23);
        goesDown(run, 23, 39);
        goesUp(run, NULL, 39);
        goesDown(run, OBJECT, 39);
        nothing(run, 38, 39);
        nothing(run, INT, 39);
        nothing(run, 39, DOUBLE);
        kinds(run, 39, 39, SAME, SAME, SAME, SAME, 0, 0);
        kinds(run, 39, STRING, 0, 0, 0, 0, TO_TEXT, 0);
        run.kind(40, OBJECT, CASTING).refused(BAD);
        run.kind(OBJECT, 40, CASTING).refused(BAD);
    }

    @Says("BAD (-1) there is no such TYPE, OBJECT, context")
    static void oneIsNoType(Run run) {
        run.newClass(NONE, NONE, false).is(23);
        for (int context = 0; context < CONTEXTS; context++) {
            run.kind(-1, STRING, context).refused(BAD);
            run.kind(INT, -1, context).refused(BAD);
            for (int t : Names.noneOf(24)) {
                run.kind(t, STRING, context).refused(BAD);
                run.kind(INT, t, context).refused(BAD);
                run.kind(t, t, context).refused(BAD);
            }
        }
    }

    @Says("BAD (-1) there is no such TYPE, OBJECT, context")
    static void noSuchContext(Run run) {
        run.kind(INT, INT, 5).is(SAME);
        run.kind(INT, INT, -1).refused(BAD);
        for (int context : Names.noneOf(CONTEXTS)) {
            run.kind(INT, INT, context).refused(BAD);
            run.kind(STRING, STRING, context).refused(BAD);
            run.kind(INT, BOOLEAN, context).refused(BAD);
            run.kind(23, -1, context).refused(BAD);
        }
    }

    @Says("Nothing is promised beyond the answers and state changes described above")
    static void askingChangesNothing(Run run) {
        run.newInterface(NONE, NONE).is(23);
        run.kind(INT, LONG, STRICT).isAndChangesNothing(WIDER);
        run.kind(23, OBJECT, STRICT).isAndChangesNothing(UP);
        run.kind(23, NUMBER, CASTING).isAndChangesNothing(DOWN);
        run.kind(23, STRING, CASTING).isAndChangesNothing(0);
        run.kind(23, STRING, TEXT).isAndChangesNothing(TO_TEXT);
    }
}
