/** Promises 14 to 19: box, make, typeOf, unboxed, cast, count. */
public final class ObjectsTest {
    private static final Checks CHECKS = new Checks();

    public static void main(String[] args) {
        box();
        boxRefused();
        make();
        full();
        typeOf();
        unboxed();
        castOfBoxes();
        castOfNull();
        castOfObjects();
        castRefused();
        count();
        CHECKS.end();
    }

    private static void due(String call, long got, long want) {
        CHECKS.due(call, got, want);
    }

    private static void dueUnboxed(ConversionTables x, int object, int box, String want) {
        CHECKS.due("17 unboxed(" + object + ", " + box + ")", Checks.unboxed(x, object, box), want);
    }

    private static void dueCast(ConversionTables x, int object, int as, int to, int want) {
        due("18 cast(" + object + ", " + as + ", " + to + ")", x.cast(object, as, to), want);
    }

    private static void box() {
        long[][] ends = {{0, 1}, {0, 65535}, {-128, 127}, {-32768, 32767},
            {Integer.MIN_VALUE, Integer.MAX_VALUE}, {Long.MIN_VALUE, Long.MAX_VALUE},
            {Integer.MIN_VALUE, 0x7f800000L}, {Long.MIN_VALUE, 0x7ff0000000000000L}};
        ConversionTables x = new ConversionTables();
        int next = 0;
        for (int type = 8; type <= 15; type++) {
            for (long bits : ends[type - 8]) {
                due("14 box(" + type + ", " + bits + ")", x.box(type, bits), next);
                due("14 its type", x.typeOf(next), type);
                dueUnboxed(x, next, type, Long.toString(bits));
                next++;
            }
        }
        due("14 NaN of float", x.box(14, 0x7f800001L), next);
        dueUnboxed(x, next, 14, Long.toString(0x7fc00000L));
        due("14 NaN of float", x.box(14, -1), next + 1);
        dueUnboxed(x, next + 1, 14, Long.toString(0x7fc00000L));
        due("14 NaN of double", x.box(15, -1), next + 2);
        dueUnboxed(x, next + 2, 15, Long.toString(0x7ff8000000000000L));
        due("14 float as it is", x.box(14, 0x00000001L), next + 3);
        dueUnboxed(x, next + 3, 14, "1");
        due("14 double as it is", x.box(15, 0x3ff8000000000001L), next + 4);
        dueUnboxed(x, next + 4, 15, Long.toString(0x3ff8000000000001L));
        due("14 bits as BAD", x.box(12, -1), next + 5);
        dueUnboxed(x, next + 5, 12, "-1");
    }

    private static void boxRefused() {
        ConversionTables x = new ConversionTables();
        long[][] beyond = {{-1, 2}, {-1, 65536}, {-129, 128}, {-32769, 32768},
            {Integer.MIN_VALUE - 1L, Integer.MAX_VALUE + 1L}, {},
            {Integer.MIN_VALUE - 1L, Integer.MAX_VALUE + 1L}};
        for (int row = 0; row < beyond.length; row++) {
            for (long bits : beyond[row]) {
                due("14 box(" + (row + 8) + ", " + bits + ")", x.box(row + 8, bits), -2);
            }
        }
        for (int type : new int[] {0, 4, 7, 16, 17, 18, 21, 22}) {
            due("14 no box " + type, x.box(type, 1), -2);
        }
        due("14 no type", x.box(23, 1), -1);
        due("14 no type", x.box(-1, 1), -1);
        due("14 refusals change nothing", x.count(1), 0);
    }

    private static void make() {
        ConversionTables x = new ConversionTables();
        int open = x.newClass(-1, -1, false);
        int closed = x.newClass(-1, -1, true);
        int face = x.newInterface(-1, -1);
        int ints = x.array(4);
        int faces = x.array(face);
        int next = 0;
        for (int type : new int[] {16, 21, 22, open, closed, ints, faces, 22}) {
            due("15 make(" + type + ")", x.make(type), next);
            due("15 its type", x.typeOf(next), type);
            next++;
        }
        for (int type : new int[] {0, 4, 7, 8, 12, 15, 17, 18, 19, 20, face}) {
            due("15 make(" + type + ")", x.make(type), -2);
        }
        due("15 no type", x.make(28), -1);
        due("15 no type", x.make(-1), -1);
        due("15 refusals change nothing", x.count(1), next);
    }

    private static void full() {
        ConversionTables x = new ConversionTables();
        for (int i = 0; i < 60; i++) {
            due("object " + i, i % 2 == 0 ? x.make(22) : x.box(12, i), i);
        }
        due("15 full", x.make(16), -3);
        due("14 full", x.box(12, 1), -3);
        due("15 BAD before FULL", x.make(23), -1);
        due("15 OUTSIDE before FULL", x.make(17), -2);
        due("14 BAD before FULL", x.box(23, 1), -1);
        due("14 OUTSIDE before FULL", x.box(12, 1L << 31), -2);
        due("objects", x.count(1), 60);
        dueUnboxed(x, 59, 12, "59");
    }

    private static void typeOf() {
        ConversionTables x = new ConversionTables();
        due("16 none yet", x.typeOf(0), -1);
        x.make(21);
        x.make(22);
        x.box(9, 7);
        due("16 String", x.typeOf(0), 21);
        due("16 null", x.typeOf(1), 22);
        due("16 Character", x.typeOf(2), 9);
        due("16 no object", x.typeOf(3), -1);
        due("16 no object", x.typeOf(-1), -1);
        due("16 far", x.typeOf(Integer.MAX_VALUE), -1);
        due("16 far", x.typeOf(Integer.MIN_VALUE), -1);
    }

    private static void unboxed() {
        ConversionTables x = new ConversionTables();
        int array = x.array(12);
        x.box(12, -2);
        x.make(22);
        x.make(16);
        x.make(21);
        x.make(array);
        for (int box = 8; box <= 15; box++) {
            dueUnboxed(x, 0, box, box == 12 ? "-2" : Checks.CLASS_CAST);
            dueUnboxed(x, 1, box, Checks.NULL_POINTER);
            dueUnboxed(x, 2, box, Checks.CLASS_CAST);
            dueUnboxed(x, 3, box, Checks.CLASS_CAST);
            dueUnboxed(x, 4, box, Checks.CLASS_CAST);
            dueUnboxed(x, 5, box, "-1");
            dueUnboxed(x, -1, box, "-1");
        }
        for (int other : new int[] {0, 4, 7, 16, 17, 18, 21, 22, array}) {
            dueUnboxed(x, 0, other, "-2");
            dueUnboxed(x, 1, other, "-2");
            dueUnboxed(x, 5, other, "-1");
        }
        dueUnboxed(x, 0, 24, "-1");
        dueUnboxed(x, 1, 24, "-1");
        dueUnboxed(x, 1, -1, "-1");
        due("17 it stays", x.count(1), 5);
    }

    private static void castOfBoxes() {
        ConversionTables x = new ConversionTables();
        int integer = x.box(12, 5);
        int truth = x.box(8, 1);
        dueCast(x, integer, 12, 12, 1);
        dueCast(x, integer, 12, 17, 1);
        dueCast(x, integer, 12, 4, 1);
        dueCast(x, integer, 12, 7, 1);
        dueCast(x, integer, 12, 3, -2);
        dueCast(x, integer, 12, 13, -2);
        dueCast(x, integer, 12, 20, -2);
        dueCast(x, integer, 17, 12, 1);
        dueCast(x, integer, 17, 13, 0);
        dueCast(x, integer, 17, 4, 1);
        dueCast(x, integer, 17, 5, 0);
        dueCast(x, integer, 17, 1, -2);
        dueCast(x, integer, 17, 18, 1);
        dueCast(x, integer, 17, 20, 0);
        dueCast(x, integer, 18, 19, 1);
        dueCast(x, integer, 16, 0, 0);
        dueCast(x, integer, 16, 21, 0);
        dueCast(x, integer, 13, 13, -2);
        dueCast(x, truth, 16, 0, 1);
        dueCast(x, truth, 8, 0, 1);
        dueCast(x, truth, 19, 4, 0);
        dueCast(x, truth, 18, 17, 0);
    }

    private static void castOfNull() {
        ConversionTables x = new ConversionTables();
        int nothing = x.make(22);
        int ints = x.array(4);
        dueCast(x, nothing, 22, 22, 1);
        dueCast(x, nothing, 22, 16, 1);
        dueCast(x, nothing, 22, ints, 1);
        dueCast(x, nothing, 22, 4, -2);
        dueCast(x, nothing, 16, ints, 1);
        dueCast(x, nothing, 16, 21, 1);
        dueCast(x, nothing, 16, 22, -2);
        dueCast(x, nothing, 16, 0, 2);
        dueCast(x, nothing, 12, 4, 2);
        dueCast(x, nothing, 12, 5, 2);
        dueCast(x, nothing, 12, 2, -2);
        dueCast(x, nothing, 17, 7, 2);
        dueCast(x, nothing, 21, 12, -2);
        dueCast(x, nothing, 4, 4, -2);
        dueCast(x, nothing, ints, 20, 1);
    }

    private static void castOfObjects() {
        ConversionTables x = new ConversionTables();
        int face = x.newInterface(-1, -1);
        int open = x.newClass(-1, -1, false);
        int below = x.newClass(open, face, false);
        int opens = x.array(open);
        int belows = x.array(below);
        int faces = x.array(face);
        int ints = x.array(4);
        int ofOpen = x.make(open);
        int ofBelow = x.make(below);
        int ofOpens = x.make(opens);
        int ofBelows = x.make(belows);
        int ofInts = x.make(ints);
        dueCast(x, ofOpen, open, face, 0);
        dueCast(x, ofOpen, open, below, 0);
        dueCast(x, ofOpen, face, open, -2);
        dueCast(x, ofOpen, open, 16, 1);
        dueCast(x, ofOpen, 16, opens, 0);
        dueCast(x, ofBelow, open, face, 1);
        dueCast(x, ofBelow, face, below, 1);
        dueCast(x, ofBelow, face, open, 1);
        dueCast(x, ofBelow, face, 18, 0);
        dueCast(x, ofBelow, face, 4, -2);
        dueCast(x, ofBelow, 16, 4, 0);
        dueCast(x, ofOpens, opens, belows, 0);
        dueCast(x, ofBelows, opens, belows, 1);
        dueCast(x, ofOpens, opens, faces, 0);
        dueCast(x, ofBelows, opens, faces, 1);
        dueCast(x, ofBelows, opens, ints, -2);
        dueCast(x, ofInts, 19, 20, 1);
        dueCast(x, ofInts, 19, opens, 0);
        dueCast(x, ofInts, ints, 18, -2);
    }

    private static void castRefused() {
        ConversionTables x = new ConversionTables();
        int text = x.make(21);
        dueCast(x, 1, 16, 16, -1);
        dueCast(x, -1, 16, 16, -1);
        dueCast(x, text, 23, 16, -1);
        dueCast(x, text, -1, 16, -1);
        dueCast(x, text, 16, 23, -1);
        dueCast(x, text, 4, 23, -1);
        dueCast(x, text, 16, -1, -1);
        dueCast(x, text, 4, 4, -2);
        dueCast(x, text, 0, 16, -2);
        dueCast(x, text, 22, 21, -2);
        dueCast(x, text, 12, 16, -2);
        dueCast(x, text, 21, 12, -2);
    }

    private static void count() {
        ConversionTables x = new ConversionTables();
        due("19 types", x.count(0), 23);
        due("19 objects", x.count(1), 0);
        x.newInterface(-1, -1);
        x.array(23);
        x.make(24);
        due("19 types", x.count(0), 25);
        due("19 objects", x.count(1), 1);
        for (int what : new int[] {-1, 2, 3, Integer.MAX_VALUE, Integer.MIN_VALUE}) {
            due("19 another what", x.count(what), -1);
        }
    }
}
