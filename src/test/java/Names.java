/** The document's numbers by name: its TYPES, contexts, KINDS and refusals. */
interface Names {
    int BOOLEAN = 0, CHAR = 1, BYTE = 2, SHORT = 3, INT = 4, LONG = 5, FLOAT = 6, DOUBLE = 7;
    int BOOLEAN_BOX = 8, CHAR_BOX = 9, BYTE_BOX = 10, SHORT_BOX = 11, INT_BOX = 12, LONG_BOX = 13,
            FLOAT_BOX = 14, DOUBLE_BOX = 15;
    int OBJECT = 16, NUMBER = 17, COMPARABLE = 18, SERIALIZABLE = 19, CLONEABLE = 20, STRING = 21,
            NULL = 22;
    int FIRST_TOLD = 23, MOST_TYPES = 40, MOST_OBJECTS = 60, MOST_CALLS = 512;

    int NONE = -1;
    int BAD = -1, OUTSIDE = -2, FULL = -3;

    int STRICT = 0, LOOSE = 1, GIVING = 2, CASTING = 3, TEXT = 4, NUMERIC = 5, CONTEXTS = 6;

    int SAME = 1, WIDER = 2, NARROWER = 3, MIXED = 4, BOXING = 5, BOXING_UP = 6, UNBOXING = 7,
            UNBOXING_WIDER = 8, UP = 9, DOWN = 10, DOWN_UNBOXING = 11, TO_TEXT = 12;

    String CLASS_CAST = "throws.ClassCastException";
    String NULL_POINTER = "throws.NullPointerException";

    /** The least and the greatest BITS of each PRIMITIVE type, in their row. */
    static long[] ends(int primitive) {
        switch (primitive) {
            case BOOLEAN: return new long[] {0, 1};
            case CHAR: return new long[] {0, 65535};
            case BYTE: return new long[] {-128, 127};
            case SHORT: return new long[] {-32768, 32767};
            case INT: case FLOAT: return new long[] {-2147483648L, 2147483647L};
            default: return new long[] {Long.MIN_VALUE, Long.MAX_VALUE};
        }
    }

    /** Numbers that are no TYPE, OBJECT or context, if there are fewer of these than told. */
    static int[] noneOf(int there) {
        // 80 and 96 are 16 and 32 to a shift of a long that nobody has looked at.
        return new int[] {Integer.MIN_VALUE, -64, -48, there, there + 1, 64, 80, 96, 65536,
            Integer.MAX_VALUE};
    }
}
