/** Promises 1 to 6: a new object, newClass, newInterface, array, type, under. */
public final class TypesTest {
    private static final Checks CHECKS = new Checks();

    public static void main(String[] args) {
        newObject();
        newClass();
        newClassRefused();
        newInterface();
        array();
        full();
        type();
        under();
        underOfArrays();
        CHECKS.end();
    }

    private static void due(String call, long got, long want) {
        CHECKS.due(call, got, want);
    }

    private static void newObject() {
        ConversionTables x = new ConversionTables();
        due("1 types", x.count(0), 23);
        due("1 objects", x.count(1), 0);
        due("1 type 22", x.type(22, 0), 4);
        due("1 type 23", x.type(23, 0), -1);
        due("1 object 0", x.typeOf(0), -1);
        x.newClass(-1, -1, false);
        x.make(16);
        ConversionTables y = new ConversionTables();
        due("1 types of another object", y.count(0), 23);
        due("1 objects of another object", y.count(1), 0);
    }

    private static void newClass() {
        ConversionTables x = new ConversionTables();
        due("2 none, none", x.newClass(-1, -1, false), 23);
        due("2 Object, Cloneable, final", x.newClass(16, 20, true), 24);
        due("2 told, Comparable", x.newClass(23, 18, false), 25);
        due("2 interface", x.newInterface(-1, -1), 26);
        due("2 told, told", x.newClass(25, 26, true), 27);
        due("2 the same once more", x.newClass(25, 26, true), 28);
        due("2 sort", x.type(23, 0), 1);
        due("2 not final", x.type(25, 1), 0);
        due("2 final", x.type(27, 1), 1);
        due("2 above 23", x.type(23, 3), 2);
        due("2 above 24", x.type(24, 3), 3);
        due("2 above 27: 27, 25, 23, 16, 26, 18", x.type(27, 3), 6);
        due("2 types", x.count(0), 29);
    }

    private static void newClassRefused() {
        ConversionTables x = new ConversionTables();
        int told = x.newClass(-1, -1, true);
        int array = x.array(16);
        int face = x.newInterface(-1, -1);
        due("2 above is no type", x.newClass(26, -1, false), -1);
        due("2 above is -2", x.newClass(-2, -1, false), -1);
        due("2 face is no type", x.newClass(-1, 26, false), -1);
        due("2 face is -2", x.newClass(-1, -2, false), -1);
        due("2 BAD before OUTSIDE", x.newClass(4, 40, false), -1);
        due("2 BAD before OUTSIDE", x.newClass(40, 4, false), -1);
        for (int above : new int[] {0, 4, 7, 8, 12, 15, 17, 18, 20, 21, 22, told, array, face}) {
            due("2 above " + above, x.newClass(above, -1, false), -2);
        }
        for (int other : new int[] {0, 7, 8, 15, 16, 17, 21, 22, told, array}) {
            due("2 face " + other, x.newClass(-1, other, false), -2);
        }
        due("2 refusals change nothing", x.count(0), 26);
        due("2 nor null's", x.type(22, 3), 18);
    }

    private static void newInterface() {
        ConversionTables x = new ConversionTables();
        due("3 none", x.newInterface(-1, -1), 23);
        due("3 second alone", x.newInterface(-1, 23), 24);
        due("3 first alone", x.newInterface(18, -1), 25);
        due("3 two", x.newInterface(24, 25), 26);
        due("3 the same twice", x.newInterface(19, 19), 27);
        due("3 sort", x.type(23, 0), 2);
        due("3 not final", x.type(23, 1), 0);
        due("3 above 23", x.type(23, 3), 2);
        due("3 above 24", x.type(24, 3), 3);
        due("3 above 26: 26, 24, 23, 25, 18, 16", x.type(26, 3), 6);
        due("3 above 27", x.type(27, 3), 3);
        int told = x.newClass(-1, -1, false);
        int array = x.array(18);
        for (int other : new int[] {0, 7, 8, 15, 16, 17, 21, 22, told, array}) {
            due("3 first " + other, x.newInterface(other, -1), -2);
            due("3 second " + other, x.newInterface(-1, other), -2);
            due("3 both " + other, x.newInterface(18, other), -2);
        }
        due("3 first no type", x.newInterface(30, -1), -1);
        due("3 second no type", x.newInterface(-1, 30), -1);
        due("3 -2", x.newInterface(-2, -1), -1);
        due("3 -2", x.newInterface(-1, -2), -1);
        due("3 BAD before OUTSIDE", x.newInterface(4, 30), -1);
        due("3 refusals change nothing", x.count(0), 30);
    }

    private static void array() {
        ConversionTables x = new ConversionTables();
        due("4 boolean", x.array(0), 23);
        due("4 Double", x.array(15), 24);
        due("4 Object", x.array(16), 25);
        due("4 Comparable", x.array(18), 26);
        due("4 array", x.array(23), 27);
        due("4 again", x.array(0), 23);
        due("4 again", x.array(23), 27);
        due("4 of null", x.array(22), -2);
        due("4 no type", x.array(28), -1);
        due("4 -1", x.array(-1), -1);
        due("4 types", x.count(0), 28);
        due("4 sort", x.type(27, 0), 3);
        due("4 not final", x.type(27, 1), 0);
        due("4 elements", x.type(27, 2), 23);
        due("4 elements", x.type(23, 2), 0);
    }

    private static void full() {
        ConversionTables x = new ConversionTables();
        int array = x.array(5);
        for (int t = 24; t < 40; t++) {
            due("2 class " + t, x.newClass(-1, -1, false), t);
        }
        due("types", x.count(0), 40);
        due("2 full", x.newClass(-1, -1, false), -3);
        due("3 full", x.newInterface(-1, -1), -3);
        due("4 full", x.array(6), -3);
        due("4 there is one", x.array(5), array);
        due("2 BAD before FULL", x.newClass(40, -1, false), -1);
        due("2 OUTSIDE before FULL", x.newClass(17, -1, false), -2);
        due("3 BAD before FULL", x.newInterface(40, -1), -1);
        due("3 OUTSIDE before FULL", x.newInterface(16, -1), -2);
        due("4 BAD before FULL", x.array(40), -1);
        due("4 OUTSIDE before FULL", x.array(22), -2);
        due("refusals change nothing", x.count(0), 40);
        due("null is under all references", x.type(22, 3), 32);
        due("the last one", x.type(39, 3), 2);
        due("the last one", x.under(39, 16), 1);
    }

    private static void type() {
        ConversionTables x = new ConversionTables();
        int[] sorts = {0, 0, 0, 0, 0, 0, 0, 0, 1, 1, 1, 1, 1, 1, 1, 1, 1, 1, 2, 2, 2, 1, 4};
        int[] finals = {0, 0, 0, 0, 0, 0, 0, 0, 1, 1, 1, 1, 1, 1, 1, 1, 0, 0, 0, 0, 0, 1, 0};
        int[] above = {0, 0, 0, 0, 0, 0, 0, 0, 4, 4, 5, 5, 5, 5, 5, 5, 1, 3, 2, 2, 2, 4, 15};
        for (int t = 0; t < 23; t++) {
            due("5 sort of " + t, x.type(t, 0), sorts[t]);
            due("5 final " + t, x.type(t, 1), finals[t]);
            due("5 elements of " + t, x.type(t, 2), -2);
            due("5 above " + t, x.type(t, 3), above[t]);
            due("5 another what", x.type(t, 4), -2);
            due("5 another what", x.type(t, -1), -2);
        }
        due("5 no type", x.type(23, 0), -1);
        due("5 no type", x.type(-1, 3), -1);
        due("5 BAD before OUTSIDE", x.type(23, 4), -1);
        due("5 far", x.type(Integer.MAX_VALUE, 0), -1);
        due("5 far", x.type(Integer.MIN_VALUE, 0), -1);
        int ints = x.array(4);
        int objects = x.array(16);
        due("5 array of int", x.type(ints, 3), 4);
        due("5 array of Object", x.type(objects, 3), 4);
        due("5 arrays of arrays", x.type(x.array(ints), 3), 5);
        due("5 array of Integer", x.type(x.array(12), 3), 5);
        due("5 null with arrays", x.type(22, 3), 19);
    }

    private static void under() {
        ConversionTables x = new ConversionTables();
        String[] above = {
            "16 18 19", "16 18 19", "16 17 18 19", "16 17 18 19", "16 17 18 19", "16 17 18 19",
            "16 17 18 19", "16 17 18 19", "", "16 19", "16", "16", "16", "16 18 19",
            "8 9 10 11 12 13 14 15 16 17 18 19 20 21"
        };
        for (int s = 8; s < 23; s++) {
            for (int t = 8; t < 23; t++) {
                boolean told = (" " + above[s - 8] + " ").contains(" " + t + " ");
                due("6 under(" + s + ", " + t + ")", x.under(s, t), s == t || told ? 1 : 0);
            }
            due("6 primitive", x.under(s, 7), -2);
            due("6 primitive", x.under(0, s), -2);
            due("6 no type", x.under(s, 23), -1);
            due("6 no type", x.under(-1, s), -1);
        }
        due("6 the same primitive", x.under(4, 4), -2);
        due("6 BAD before OUTSIDE", x.under(4, 23), -1);
        due("6 BAD before OUTSIDE", x.under(23, 4), -1);
    }

    private static void underOfArrays() {
        ConversionTables x = new ConversionTables();
        int integers = x.array(12);
        int numbers = x.array(17);
        int ints = x.array(4);
        int longs = x.array(5);
        int integers2 = x.array(integers);
        int ints2 = x.array(ints);
        int objects = x.array(16);
        int cloneables = x.array(20);
        int numbers2 = x.array(numbers);
        due("6 a later array above", x.under(integers, objects), 1);
        due("6 Integer[] Number[]", x.under(integers, numbers), 1);
        due("6 Number[] Integer[]", x.under(numbers, integers), 0);
        due("6 int[] long[]", x.under(ints, longs), 0);
        due("6 int[] Object[]", x.under(ints, objects), 0);
        due("6 int[] Integer[]", x.under(ints, integers), 0);
        due("6 int[][] Object[]", x.under(ints2, objects), 1);
        due("6 int[][] Cloneable[]", x.under(ints2, cloneables), 1);
        due("6 Integer[][] Number[][]", x.under(integers2, numbers2), 1);
        due("6 Integer[][] Object[]", x.under(integers2, objects), 1);
        due("6 Integer[][] Integer[]", x.under(integers2, integers), 0);
        due("6 Integer[] Cloneable[]", x.under(integers, cloneables), 0);
        due("6 Object[] Object", x.under(objects, 16), 1);
        due("6 Object Object[]", x.under(16, objects), 0);
        due("6 int[] Cloneable", x.under(ints, 20), 1);
        due("6 int[] Serializable", x.under(ints, 19), 1);
        due("6 int[] Comparable", x.under(ints, 18), 0);
        due("6 int[] itself", x.under(ints, ints), 1);
        due("6 null int[]", x.under(22, ints), 1);
        due("6 int[] null", x.under(ints, 22), 0);
    }
}
