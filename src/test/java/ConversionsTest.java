/** Promises 7 to 9 and 11 to 13: kind, given, targets, promoted, both, conditional. */
public final class ConversionsTest {
    private static final Checks CHECKS = new Checks();

    public static void main(String[] args) {
        kindsOfPrimitives();
        kindsOfBoxes();
        kindsOfReferences();
        kindsOfArrays();
        kindsToText();
        kindsToNumbers();
        kindRefused();
        given();
        givenAtTheEnds();
        targets();
        promoted();
        both();
        conditional();
        CHECKS.end();
    }

    private static void due(String call, long got, long want) {
        CHECKS.due(call, got, want);
    }

    /** The kinds in the contexts 0 to 5 of one pair. */
    private static void dueKinds(ConversionTables x, int from, int to, int... want) {
        for (int context = 0; context < 6; context++) {
            String call = "7 kind(" + from + ", " + to + ", " + context + ")";
            due(call, x.kind(from, to, context), want[context]);
        }
    }

    private static void kindsOfPrimitives() {
        ConversionTables x = new ConversionTables();
        int[][] steps = {
            {1, 0, 0, 0, 0, 0, 0, 0}, {0, 1, 3, 3, 2, 2, 2, 2}, {0, 4, 1, 2, 2, 2, 2, 2},
            {0, 3, 3, 1, 2, 2, 2, 2}, {0, 3, 3, 3, 1, 2, 2, 2}, {0, 3, 3, 3, 3, 1, 2, 2},
            {0, 3, 3, 3, 3, 3, 1, 2}, {0, 3, 3, 3, 3, 3, 3, 1}
        };
        for (int from = 0; from < 8; from++) {
            for (int to = 0; to < 8; to++) {
                int step = steps[from][to];
                int simple = step > 2 ? 0 : step;
                int numeric = to == 0 ? 0 : simple;
                dueKinds(x, from, to, simple, simple, simple, step, 0, numeric);
            }
        }
    }

    private static void kindsOfBoxes() {
        ConversionTables x = new ConversionTables();
        dueKinds(x, 0, 8, 0, 5, 5, 5, 0, 0);
        dueKinds(x, 7, 15, 0, 5, 5, 5, 0, 0);
        dueKinds(x, 4, 13, 0, 0, 0, 0, 0, 0);
        dueKinds(x, 4, 16, 0, 6, 6, 6, 0, 0);
        dueKinds(x, 4, 17, 0, 6, 6, 6, 0, 0);
        dueKinds(x, 1, 17, 0, 0, 0, 0, 0, 0);
        dueKinds(x, 0, 19, 0, 6, 6, 6, 0, 0);
        dueKinds(x, 4, 20, 0, 0, 0, 0, 0, 0);
        dueKinds(x, 4, 22, 0, 0, 0, 0, 0, 0);
        dueKinds(x, 8, 0, 0, 7, 7, 7, 0, 0);
        dueKinds(x, 12, 4, 0, 7, 7, 7, 0, 7);
        dueKinds(x, 12, 5, 0, 8, 8, 8, 0, 8);
        dueKinds(x, 9, 4, 0, 8, 8, 8, 0, 8);
        dueKinds(x, 9, 3, 0, 0, 0, 0, 0, 0);
        dueKinds(x, 10, 1, 0, 0, 0, 0, 0, 0);
        dueKinds(x, 12, 2, 0, 0, 0, 0, 0, 0);
        dueKinds(x, 8, 4, 0, 0, 0, 0, 0, 0);
        dueKinds(x, 12, 0, 0, 0, 0, 0, 0, 0);
        dueKinds(x, 12, 12, 1, 1, 1, 1, 0, 0);
        dueKinds(x, 12, 13, 0, 0, 0, 0, 0, 0);
        dueKinds(x, 16, 0, 0, 0, 0, 11, 0, 0);
        dueKinds(x, 17, 7, 0, 0, 0, 11, 0, 0);
        dueKinds(x, 17, 1, 0, 0, 0, 0, 0, 0);
        dueKinds(x, 18, 1, 0, 0, 0, 11, 0, 0);
        dueKinds(x, 19, 4, 0, 0, 0, 11, 0, 0);
        dueKinds(x, 20, 4, 0, 0, 0, 0, 0, 0);
        dueKinds(x, 21, 4, 0, 0, 0, 0, 0, 0);
        dueKinds(x, 22, 4, 0, 0, 0, 0, 0, 0);
    }

    private static void kindsOfReferences() {
        ConversionTables x = new ConversionTables();
        int open = x.newClass(-1, -1, false);
        int below = x.newClass(open, 18, true);
        int face = x.newInterface(-1, -1);
        int face2 = x.newInterface(face, -1);
        int other = x.newClass(-1, -1, false);
        dueKinds(x, below, open, 9, 9, 9, 9, 0, 0);
        dueKinds(x, open, below, 0, 0, 0, 10, 0, 0);
        dueKinds(x, open, other, 0, 0, 0, 0, 0, 0);
        dueKinds(x, open, face, 0, 0, 0, 10, 0, 0);
        dueKinds(x, face, open, 0, 0, 0, 10, 0, 0);
        dueKinds(x, below, face, 0, 0, 0, 0, 0, 0);
        dueKinds(x, face, below, 0, 0, 0, 0, 0, 0);
        dueKinds(x, below, 18, 9, 9, 9, 9, 0, 0);
        dueKinds(x, 18, below, 0, 0, 0, 10, 0, 0);
        dueKinds(x, face2, face, 9, 9, 9, 9, 0, 0);
        dueKinds(x, face, face2, 0, 0, 0, 10, 0, 0);
        dueKinds(x, 18, 20, 0, 0, 0, 10, 0, 0);
        dueKinds(x, face, 4, 0, 0, 0, 0, 0, 0);
        dueKinds(x, 16, face, 0, 0, 0, 10, 0, 0);
        dueKinds(x, face, 16, 9, 9, 9, 9, 0, 0);
        dueKinds(x, 17, 18, 0, 0, 0, 10, 0, 0);
        dueKinds(x, 18, 17, 0, 0, 0, 10, 0, 0);
        dueKinds(x, 17, 12, 0, 0, 0, 10, 0, 0);
        dueKinds(x, 21, face, 0, 0, 0, 0, 0, 0);
        dueKinds(x, 20, 21, 0, 0, 0, 0, 12, 0);
        dueKinds(x, 22, face, 9, 9, 9, 9, 0, 0);
        dueKinds(x, 22, 22, 1, 1, 1, 1, 0, 0);
        dueKinds(x, face, 22, 0, 0, 0, 0, 0, 0);
        dueKinds(x, 16, 22, 0, 0, 0, 0, 0, 0);
    }

    private static void kindsOfArrays() {
        ConversionTables x = new ConversionTables();
        int face = x.newInterface(-1, -1);
        int open = x.newClass(-1, -1, false);
        int closed = x.newClass(-1, -1, true);
        int faces = x.array(face);
        int opens = x.array(open);
        int closeds = x.array(closed);
        int ints = x.array(4);
        int longs = x.array(5);
        int objects = x.array(16);
        int ints2 = x.array(ints);
        int faces2 = x.array(faces);
        int opens2 = x.array(opens);
        int comparables = x.array(18);
        dueKinds(x, faces, opens, 0, 0, 0, 10, 0, 0);
        dueKinds(x, opens, faces, 0, 0, 0, 10, 0, 0);
        dueKinds(x, faces2, opens2, 0, 0, 0, 10, 0, 0);
        dueKinds(x, faces, closeds, 0, 0, 0, 0, 0, 0);
        dueKinds(x, closeds, faces, 0, 0, 0, 0, 0, 0);
        dueKinds(x, faces, comparables, 0, 0, 0, 10, 0, 0);
        dueKinds(x, opens, closeds, 0, 0, 0, 0, 0, 0);
        dueKinds(x, opens, objects, 9, 9, 9, 9, 0, 0);
        dueKinds(x, objects, opens, 0, 0, 0, 10, 0, 0);
        dueKinds(x, objects, ints2, 0, 0, 0, 10, 0, 0);
        dueKinds(x, objects, ints, 0, 0, 0, 0, 0, 0);
        dueKinds(x, ints, objects, 0, 0, 0, 0, 0, 0);
        dueKinds(x, ints, longs, 0, 0, 0, 0, 0, 0);
        dueKinds(x, ints2, faces2, 0, 0, 0, 0, 0, 0);
        dueKinds(x, comparables, ints2, 0, 0, 0, 0, 0, 0);
        dueKinds(x, faces2, faces, 0, 0, 0, 0, 0, 0);
        dueKinds(x, faces, faces, 1, 1, 1, 1, 0, 0);
        dueKinds(x, 16, ints, 0, 0, 0, 10, 0, 0);
        dueKinds(x, 20, ints, 0, 0, 0, 10, 0, 0);
        dueKinds(x, ints, 19, 9, 9, 9, 9, 0, 0);
        dueKinds(x, face, faces, 0, 0, 0, 0, 0, 0);
        dueKinds(x, faces, face, 0, 0, 0, 0, 0, 0);
        dueKinds(x, 22, ints, 9, 9, 9, 9, 0, 0);
        dueKinds(x, ints, 22, 0, 0, 0, 0, 0, 0);
        dueKinds(x, ints, 4, 0, 0, 0, 0, 0, 0);
    }

    private static void kindsToText() {
        ConversionTables x = new ConversionTables();
        int array = x.array(0);
        for (int from = 0; from <= array; from++) {
            for (int to = 0; to <= array; to++) {
                int toString = from == 21 ? 1 : 12;
                due("7 text of " + from + " to " + to, x.kind(from, to, 4),
                        to == 21 ? toString : 0);
            }
        }
        dueKinds(x, 22, 21, 9, 9, 9, 9, 12, 0);
        dueKinds(x, 16, 21, 0, 0, 0, 10, 12, 0);
        dueKinds(x, 21, 21, 1, 1, 1, 1, 1, 0);
        dueKinds(x, 4, 21, 0, 0, 0, 0, 12, 0);
    }

    private static void kindsToNumbers() {
        ConversionTables x = new ConversionTables();
        for (int from = 0; from < 23; from++) {
            for (int to : new int[] {0, 8, 12, 16, 17, 21, 22}) {
                due("7 to no NUMBER", x.kind(from, to, 5), 0);
            }
        }
        due("7 from Object", x.kind(16, 4, 5), 0);
        due("7 NARROWER", x.kind(5, 4, 5), 0);
        due("7 MIXED", x.kind(2, 1, 5), 0);
    }

    private static void kindRefused() {
        ConversionTables x = new ConversionTables();
        due("7 no context", x.kind(4, 4, 6), -1);
        due("7 no context", x.kind(4, 4, -1), -1);
        due("7 no from", x.kind(23, 4, 0), -1);
        due("7 no from", x.kind(-1, 4, 0), -1);
        due("7 no to", x.kind(4, 23, 0), -1);
        due("7 no to", x.kind(4, -1, 0), -1);
    }

    private static void given() {
        ConversionTables x = new ConversionTables();
        for (int to = 0; to < 23; to++) {
            boolean ofInt = to >= 1 && to <= 7 || to >= 9 && to <= 12 || to >= 16 && to <= 19;
            due("8 5 of int to " + to, x.given(5, 4, to), ofInt ? 1 : 0);
            boolean ofLong = to >= 5 && to <= 7 || to == 13 || to >= 16 && to <= 19;
            due("8 5 of long to " + to, x.given(5, 5, to), ofLong ? 1 : 0);
            boolean ofByte = to >= 1 && to <= 7 || to >= 9 && to <= 11 || to >= 16 && to <= 19;
            due("8 5 of byte to " + to, x.given(5, 2, to), ofByte ? 1 : 0);
            boolean ofChar = to >= 1 && to <= 7 || to >= 9 && to <= 11
                    || to == 16 || to == 18 || to == 19;
            due("8 5 of char to " + to, x.given(5, 1, to), ofChar ? 1 : 0);
        }
        due("8 no from", x.given(5, 23, 4), -1);
        due("8 no to", x.given(5, 4, 23), -1);
        due("8 BAD before OUTSIDE", x.given(5, 0, 23), -1);
        due("8 BAD before OUTSIDE", x.given(1L << 40, 4, -1), -1);
        for (int from : new int[] {0, 6, 7, 8, 9, 12, 16, 21, 22}) {
            due("8 from " + from, x.given(1, from, 4), -2);
        }
    }

    private static void givenAtTheEnds() {
        ConversionTables x = new ConversionTables();
        long[][] ends = {{}, {0, 65535}, {-128, 127}, {-32768, 32767}};
        for (int to = 1; to <= 3; to++) {
            for (int as : new int[] {to, to + 8}) {
                due("8 least to " + as, x.given(ends[to][0], 4, as), 1);
                due("8 less to " + as, x.given(ends[to][0] - 1, 4, as), 0);
                due("8 most to " + as, x.given(ends[to][1], 4, as), 1);
                due("8 more to " + as, x.given(ends[to][1] + 1, 4, as), 0);
            }
            due("8 least of " + to, x.given(ends[to][0], to, to), 1);
            due("8 less than of " + to, x.given(ends[to][0] - 1, to, to), -2);
            due("8 most of " + to, x.given(ends[to][1], to, to), 1);
            due("8 more than of " + to, x.given(ends[to][1] + 1, to, to), -2);
        }
        due("8 int", x.given(Integer.MAX_VALUE, 4, 4), 1);
        due("8 int", x.given(Integer.MIN_VALUE, 4, 7), 1);
        due("8 no int", x.given(Integer.MAX_VALUE + 1L, 4, 5), -2);
        due("8 no int", x.given(Integer.MIN_VALUE - 1L, 4, 5), -2);
        due("8 long", x.given(Long.MIN_VALUE, 5, 5), 1);
        due("8 long", x.given(Long.MAX_VALUE, 5, 13), 1);
        due("8 short to byte", x.given(-128, 3, 2), 1);
        due("8 short to Byte", x.given(-129, 3, 10), 0);
        due("8 short to char", x.given(-1, 3, 1), 0);
        due("8 char to short", x.given(32767, 1, 3), 1);
        due("8 char to Short", x.given(32768, 1, 11), 0);
        due("8 byte to Character", x.given(-1, 2, 9), 0);
    }

    private static void targets() {
        ConversionTables x = new ConversionTables();
        int[][] want = {
            // STRICT, LOOSE, GIVING, CASTING, TEXT, NUMERIC
            {1, 5, 5, 5, 1, 0}, // boolean: itself, Boolean, Object, Comparable, Serializable
            {5, 9, 9, 11, 1, 5}, // char: 1 4 5 6 7, then 9 16 18 19, then 2 3
            {6, 11, 11, 12, 1, 6}, // byte: 2 .. 7, then 10 16 .. 19, then 1
        };
        for (int from = 0; from < want.length; from++) {
            for (int context = 0; context < 6; context++) {
                String call = "9 targets(" + from + ", " + context + ")";
                due(call, x.targets(from, context), want[from][context]);
            }
        }
        due("9 Integer", x.targets(12, 0), 5);
        due("9 Integer", x.targets(12, 1), 9);
        due("9 Integer", x.targets(12, 5), 4);
        due("9 Object, all but null", x.targets(16, 3), 22);
        due("9 Object, strict", x.targets(16, 0), 1);
        due("9 null", x.targets(22, 3), 15);
        due("9 null to text", x.targets(22, 4), 1);
        due("9 null as a number", x.targets(22, 5), 0);
        due("9 String to text", x.targets(21, 4), 1);
        x.newClass(-1, -1, false);
        x.array(4);
        due("9 Object, with those told", x.targets(16, 3), 24);
        due("9 null, with those told", x.targets(22, 0), 17);
        due("9 no type", x.targets(25, 0), -1);
        due("9 no type", x.targets(-1, 0), -1);
        due("9 no context", x.targets(4, 6), -1);
        due("9 no context", x.targets(4, -1), -1);
    }

    private static void promoted() {
        ConversionTables x = new ConversionTables();
        int[] want = {-2, 4, 4, 4, 4, 5, 6, 7};
        for (int t = 0; t < 8; t++) {
            due("11 promoted(" + t + ")", x.promoted(t), want[t]);
            due("11 promoted(" + (t + 8) + ")", x.promoted(t + 8), want[t]);
        }
        int told = x.newClass(-1, -1, false);
        for (int t = 16; t <= told; t++) {
            due("11 promoted(" + t + ")", x.promoted(t), -2);
        }
        due("11 no type", x.promoted(24), -1);
        due("11 no type", x.promoted(-1), -1);
    }

    private static void both() {
        ConversionTables x = new ConversionTables();
        for (int a = 0; a < 23; a++) {
            for (int b = 0; b < 23; b++) {
                int one = a < 16 ? a % 8 : 0;
                int two = b < 16 ? b % 8 : 0;
                int larger = Math.max(one, two);
                int want = larger >= 4 ? larger : 4;
                String call = "12 both(" + a + ", " + b + ")";
                due(call, x.both(a, b), one == 0 || two == 0 ? -2 : want);
            }
            due("12 no type", x.both(a, 23), -1);
            due("12 no type", x.both(-1, a), -1);
        }
    }

    private static void dueConditional(ConversionTables x, int a, int b, int want) {
        due("13 conditional(" + a + ", " + b + ")", x.conditional(a, b), want);
        due("13 conditional(" + b + ", " + a + ")", x.conditional(b, a), want);
    }

    private static void conditional() {
        ConversionTables x = new ConversionTables();
        int open = x.newClass(-1, 18, false);
        int below = x.newClass(open, -1, false);
        int ints = x.array(4);
        int belows = x.array(below);
        int opens = x.array(open);
        for (int t = 0; t < x.count(0); t++) {
            dueConditional(x, t, t, t);
            dueConditional(x, t, 22, t < 8 ? t + 8 : t);
            dueConditional(x, t, 16, 16);
            due("13 no type", x.conditional(t, 28), -1);
            due("13 no type", x.conditional(-1, t), -1);
        }
        for (int t = 0; t < 8; t++) {
            dueConditional(x, t, t + 8, t);
        }
        int[][] numbers = {{2, 3, 3}, {1, 2, 4}, {1, 3, 4}, {2, 4, 4}, {4, 5, 5}, {5, 6, 6},
            {6, 7, 7}, {1, 7, 7}};
        for (int[] row : numbers) {
            dueConditional(x, row[0], row[1], row[2]);
            dueConditional(x, row[0] + 8, row[1], row[2]);
            dueConditional(x, row[0], row[1] + 8, row[2]);
            dueConditional(x, row[0] + 8, row[1] + 8, row[2]);
        }
        dueConditional(x, 0, 4, 16);
        dueConditional(x, 8, 12, 16);
        dueConditional(x, 0, 12, 16);
        dueConditional(x, 0, 18, 18);
        dueConditional(x, 4, 17, 17);
        dueConditional(x, 1, 17, 16);
        dueConditional(x, 4, 21, 16);
        dueConditional(x, below, open, open);
        dueConditional(x, below, 18, 18);
        dueConditional(x, 18, 19, 16);
        dueConditional(x, belows, opens, opens);
        dueConditional(x, ints, opens, 16);
        dueConditional(x, ints, 20, 20);
        dueConditional(x, ints, 4, 16);
    }
}
