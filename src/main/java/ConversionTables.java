/**
 * Conversions of Java: which lead from a type to another one in each context, by which steps;
 * constants that fit; what a number becomes; promotions, the type of a conditional; boxes and
 * objects that are cast, unboxed, or fail.
 */
public final class ConversionTables {
    public static final int BAD = -1, OUTSIDE = -2, FULL = -3;

    private static final int NONE = -1;
    private static final int NO = 0, YES = 1, UNBOXED_NULL = 2;

    private static final int BOOLEAN = 0, CHAR = 1, BYTE = 2, SHORT = 3, INT = 4, LONG = 5,
            FLOAT = 6, DOUBLE = 7;
    private static final int FIRST_BOX = 8, LAST_BOX = 15;
    private static final int OBJECT = 16, NUMBER = 17, COMPARABLE = 18, SERIALIZABLE = 19,
            CLONEABLE = 20, STRING = 21, NULL = 22, FIRST_TOLD = 23;

    private static final int SORT_PRIMITIVE = 0, SORT_CLASS = 1, SORT_INTERFACE = 2,
            SORT_ARRAY = 3, SORT_NULL = 4;

    private static final int NOT_ALLOWED = 0, SAME = 1, WIDER = 2, NARROWER = 3, MIXED = 4,
            BOXING = 5, BOXING_UP = 6, UNBOXING = 7, UNBOXING_WIDER = 8, UP = 9, DOWN = 10,
            DOWN_UNBOXING = 11, TO_TEXT = 12;

    private static final int GIVING = 2, CASTING = 3, TEXT = 4, NUMERIC = 5, LAST_CONTEXT = 5;

    private static final int STRICT_KINDS = 1 << SAME | 1 << WIDER | 1 << UP;
    private static final int LOOSE_KINDS = STRICT_KINDS | 1 << BOXING | 1 << BOXING_UP
            | 1 << UNBOXING | 1 << UNBOXING_WIDER;
    private static final int CASTING_KINDS = LOOSE_KINDS | 1 << NARROWER | 1 << MIXED | 1 << DOWN
            | 1 << DOWN_UNBOXING;
    private static final int TEXT_KINDS = 1 << SAME | 1 << TO_TEXT;
    private static final int NUMERIC_KINDS = 1 << SAME | 1 << WIDER | 1 << UNBOXING
            | 1 << UNBOXING_WIDER;

    /** Of each context, in their row, the kinds that it allows: bit k stands for KIND k. */
    private static final int[] ALLOWED_KINDS = {
        STRICT_KINDS, LOOSE_KINDS, LOOSE_KINDS, CASTING_KINDS, TEXT_KINDS, NUMERIC_KINDS
    };

    /** Of each PRIMITIVE type, in their row, the least and the greatest BITS that it can have. */
    private static final long[] LEAST_BITS = {
        0L, 0L, -128L, -32768L, -2147483648L, -9223372036854775808L, -2147483648L,
        -9223372036854775808L
    };
    private static final long[] GREATEST_BITS = {
        1L, 65535L, 127L, 32767L, 2147483647L, 9223372036854775807L, 2147483647L,
        9223372036854775807L
    };

    private static final int MOST_TYPES = 40;
    private static final int MOST_OBJECTS = 60;

    private final TypeTable types = new TypeTable();
    private final int[] objectTypes = new int[MOST_OBJECTS];
    private final long[] objectBits = new long[MOST_OBJECTS];
    private int objectCount = 0;

    public ConversionTables() {
    }

    // ---- types

    public int newClass(int above, int face, boolean isFinal) {
        if (!isTypeOrNone(above) || !isTypeOrNone(face)) {
            return BAD;
        }
        int parent = above == NONE ? OBJECT : above;
        if (!types.mayHaveSubclass(parent) || !isInterfaceOrNone(face)) {
            return OUTSIDE;
        }
        return types.isFull() ? FULL : types.addClass(parent, face, isFinal);
    }

    public int newInterface(int one, int two) {
        if (!isTypeOrNone(one) || !isTypeOrNone(two)) {
            return BAD;
        }
        if (!isInterfaceOrNone(one) || !isInterfaceOrNone(two)) {
            return OUTSIDE;
        }
        return types.isFull() ? FULL : types.addInterface(one, two);
    }

    public int array(int type) {
        if (!types.has(type)) {
            return BAD;
        }
        if (type == NULL) {
            return OUTSIDE;
        }
        int known = types.arrayOf(type);
        if (known != NONE) {
            return known;
        }
        return types.isFull() ? FULL : types.addArray(type);
    }

    public int type(int t, int what) {
        if (!types.has(t)) {
            return BAD;
        }
        switch (what) {
            case 0:
                return types.sortOf(t);
            case 1:
                return types.isFinal(t) ? YES : NO;
            case 2:
                return types.sortOf(t) == SORT_ARRAY ? types.elementOf(t) : OUTSIDE;
            case 3:
                return types.countAbove(t);
            default:
                return OUTSIDE;
        }
    }

    public int under(int s, int t) {
        if (!types.has(s) || !types.has(t)) {
            return BAD;
        }
        if (isPrimitive(s) || isPrimitive(t)) {
            return OUTSIDE;
        }
        return types.isUnder(s, t) ? YES : NO;
    }

    private boolean isTypeOrNone(int t) {
        return t == NONE || types.has(t);
    }

    private boolean isInterfaceOrNone(int t) {
        return t == NONE || types.sortOf(t) == SORT_INTERFACE;
    }

    // ---- conversions

    public int kind(int from, int to, int context) {
        if (!types.has(from) || !types.has(to) || !isContext(context)) {
            return BAD;
        }
        return allowedKind(from, to, context);
    }

    public int given(long v, int from, int to) {
        if (!types.has(from) || !types.has(to)) {
            return BAD;
        }
        if (!isWhole(from) || !areBitsOf(v, from)) {
            return OUTSIDE;
        }
        boolean allowed = allowedKind(from, to, GIVING) != NOT_ALLOWED
                || constantFits(v, from, to);
        return allowed ? YES : NO;
    }

    public int targets(int from, int context) {
        if (!types.has(from) || !isContext(context)) {
            return BAD;
        }
        int found = 0;
        for (int to = 0; to < types.size(); to++) {
            if (allowedKind(from, to, context) != NOT_ALLOWED) {
                found++;
            }
        }
        return found;
    }

    public long turned(int from, long bits, int to) {
        if (!isNumber(from) || !isNumber(to)) {
            return BAD;
        }
        if (!areBitsOf(bits, from)) {
            return OUTSIDE;
        }
        return isWhole(to) ? turnedToWhole(from, bits, to) : turnedToFloating(from, bits, to);
    }

    public int promoted(int t) {
        if (!types.has(t)) {
            return BAD;
        }
        int number = withoutBox(t);
        return isNumber(number) ? Math.max(number, INT) : OUTSIDE;
    }

    public int both(int a, int b) {
        if (!types.has(a) || !types.has(b)) {
            return BAD;
        }
        int one = withoutBox(a);
        int two = withoutBox(b);
        return isNumber(one) && isNumber(two) ? promotedOfTwo(one, two) : OUTSIDE;
    }

    public int conditional(int a, int b) {
        if (!types.has(a) || !types.has(b)) {
            return BAD;
        }
        if (a == b) {
            return a;
        }
        int one = withoutBox(a);
        int two = withoutBox(b);
        if (one == two) {
            return one;
        }
        if (isNumber(one) && isNumber(two)) {
            return isByteAndShort(one, two) ? SHORT : promotedOfTwo(one, two);
        }
        return conditionalOfReferences(boxed(a), boxed(b));
    }

    private static boolean isPrimitive(int t) {
        return t >= BOOLEAN && t <= DOUBLE;
    }

    private static boolean isNumber(int t) {
        return t >= CHAR && t <= DOUBLE;
    }

    private static boolean isWhole(int t) {
        return t >= CHAR && t <= LONG;
    }

    private static boolean isBox(int t) {
        return t >= FIRST_BOX && t <= LAST_BOX;
    }

    private static int boxed(int t) {
        return isPrimitive(t) ? t + FIRST_BOX : t;
    }

    private static int withoutBox(int t) {
        return isBox(t) ? t - FIRST_BOX : t;
    }

    private static boolean isContext(int context) {
        return context >= 0 && context <= LAST_CONTEXT;
    }

    private int allowedKind(int from, int to, int context) {
        if (context == TEXT && to != STRING || context == NUMERIC && !isNumber(to)) {
            return NOT_ALLOWED;
        }
        int kind = context == TEXT && from != STRING ? TO_TEXT : stepsBetween(from, to);
        return (ALLOWED_KINDS[context] >> kind & 1) == 1 ? kind : NOT_ALLOWED;
    }

    // No pair of types has two of the kinds 1 to 11, so the first that is allowed in a context is
    // the only one there is.
    private int stepsBetween(int from, int to) {
        if (from == to) {
            return SAME;
        }
        if (isPrimitive(from)) {
            return isPrimitive(to) ? stepBetweenPrimitives(from, to) : stepsByBoxing(from, to);
        }
        return isPrimitive(to) ? stepsByUnboxing(from, to) : stepBetweenReferences(from, to);
    }

    private static int stepBetweenPrimitives(int from, int to) {
        if (from == BOOLEAN || to == BOOLEAN) {
            return NOT_ALLOWED;
        }
        if (isWider(from, to)) {
            return WIDER;
        }
        return from == BYTE && to == CHAR ? MIXED : NARROWER;
    }

    private static boolean isWider(int from, int to) {
        boolean laterNumber = isNumber(from) && isNumber(to) && to > from;
        return laterNumber && (from != CHAR || to >= INT);
    }

    private int stepsByBoxing(int from, int to) {
        int own = boxed(from);
        if (own == to) {
            return BOXING;
        }
        return types.isUnder(own, to) ? BOXING_UP : NOT_ALLOWED;
    }

    private int stepsByUnboxing(int from, int to) {
        if (!isBox(from)) {
            return types.goesDown(from, boxed(to)) ? DOWN_UNBOXING : NOT_ALLOWED;
        }
        int own = withoutBox(from);
        if (own == to) {
            return UNBOXING;
        }
        return isWider(own, to) ? UNBOXING_WIDER : NOT_ALLOWED;
    }

    private int stepBetweenReferences(int from, int to) {
        if (types.isUnder(from, to)) {
            return UP;
        }
        return types.goesDown(from, to) ? DOWN : NOT_ALLOWED;
    }

    // A constant of long is left out: only those of int and below may become narrower.
    private static boolean constantFits(long v, int from, int to) {
        int narrow = withoutBox(to);
        return from <= INT && narrow >= CHAR && narrow <= SHORT && areBitsOf(v, narrow);
    }

    private static boolean areBitsOf(long bits, int primitive) {
        return bits >= LEAST_BITS[primitive] && bits <= GREATEST_BITS[primitive];
    }

    private static Format formatOf(int floating) {
        return floating == FLOAT ? Format.OF_FLOAT : Format.OF_DOUBLE;
    }

    private static long turnedToFloating(int from, long bits, int to) {
        if (isWhole(from)) {
            return formatOf(to).fromLong(bits);
        }
        return formatOf(to).fromFormat(formatOf(from), bits);
    }

    private static long turnedToWhole(int from, long bits, int to) {
        if (isWhole(from)) {
            return lowestBits(bits, to);
        }
        long whole = formatOf(from).toLong(bits);
        // Java goes by way of int to the types below it, so the ends are those of int there.
        return to == LONG ? whole : lowestBits(nearestInt(whole), to);
    }

    private static long nearestInt(long whole) {
        return Math.max(LEAST_BITS[INT], Math.min(GREATEST_BITS[INT], whole));
    }

    private static long lowestBits(long whole, int to) {
        switch (to) {
            case CHAR:
                return (char) whole;
            case BYTE:
                return (byte) whole;
            case SHORT:
                return (short) whole;
            case INT:
                return (int) whole;
            default:
                return whole;
        }
    }

    // The numbers above int stand in the row in which one outdoes the other.
    private static int promotedOfTwo(int one, int two) {
        return Math.max(INT, Math.max(one, two));
    }

    private static boolean isByteAndShort(int one, int two) {
        return one == BYTE && two == SHORT || one == SHORT && two == BYTE;
    }

    // null is UNDER each reference, so it needs no case of its own.
    private int conditionalOfReferences(int one, int two) {
        if (types.isUnder(one, two)) {
            return two;
        }
        return types.isUnder(two, one) ? one : OBJECT;
    }

    // ---- objects

    public int box(int type, long bits) {
        if (!types.has(type)) {
            return BAD;
        }
        if (!isBox(type) || !areBitsOf(bits, withoutBox(type))) {
            return OUTSIDE;
        }
        return isFullOfObjects() ? FULL : addObject(type, withOneNaN(withoutBox(type), bits));
    }

    public int make(int type) {
        if (!types.has(type)) {
            return BAD;
        }
        if (!mayBeMade(type)) {
            return OUTSIDE;
        }
        return isFullOfObjects() ? FULL : addObject(type, 0L);
    }

    public int typeOf(int object) {
        return isObject(object) ? objectTypes[object] : BAD;
    }

    public long unboxed(int object, int box) throws ClassCastException, NullPointerException {
        if (!isObject(object) || !types.has(box)) {
            return BAD;
        }
        if (!isBox(box)) {
            return OUTSIDE;
        }
        if (objectTypes[object] == NULL) {
            throw new NullPointerException();
        }
        if (objectTypes[object] != box) {
            throw new ClassCastException();
        }
        return objectBits[object];
    }

    public int cast(int object, int as, int to) {
        if (!isObject(object) || !types.has(as) || !types.has(to)) {
            return BAD;
        }
        int own = objectTypes[object];
        if (isPrimitive(as) || !types.isUnder(own, as)) {
            return OUTSIDE;
        }
        int kind = allowedKind(as, to, CASTING);
        if (kind == NOT_ALLOWED) {
            return OUTSIDE;
        }
        if (own == NULL) {
            return isPrimitive(to) ? UNBOXED_NULL : YES;
        }
        // What is held as a BOX is that BOX, so a WIDER step behind the unboxing can't fail.
        boolean fits = kind == UNBOXING_WIDER || types.isUnder(own, boxed(to));
        return fits ? YES : NO;
    }

    public int count(int what) {
        switch (what) {
            case 0:
                return types.size();
            case 1:
                return objectCount;
            default:
                return BAD;
        }
    }

    private boolean isObject(int object) {
        return object >= 0 && object < objectCount;
    }

    private boolean isFullOfObjects() {
        return objectCount >= MOST_OBJECTS;
    }

    private boolean mayBeMade(int type) {
        if (type < FIRST_TOLD) {
            return type == OBJECT || type == STRING || type == NULL;
        }
        return types.sortOf(type) != SORT_INTERFACE;
    }

    private int addObject(int type, long bits) {
        int object = objectCount;
        objectTypes[object] = type;
        objectBits[object] = bits;
        objectCount++;
        return object;
    }

    private static long withOneNaN(int primitive, long bits) {
        if (primitive < FLOAT) {
            return bits;
        }
        Format format = formatOf(primitive);
        return format.fromFormat(format, bits);
    }

    /** The TYPES there are, and which of them stand above which. */
    private static final class TypeTable {
        private final int[] sorts = new int[MOST_TYPES];
        private final boolean[] finals = new boolean[MOST_TYPES];
        private final int[] elements = new int[MOST_TYPES];
        /** Bit t of row s says that s is UNDER t; PRIMITIVE types have empty rows. */
        private final long[] aboves = new long[MOST_TYPES];
        private int size = 0;

        TypeTable() {
            for (int t = BOOLEAN; t <= DOUBLE; t++) {
                sorts[t] = SORT_PRIMITIVE;
                elements[t] = NONE;
            }
            setKnown(OBJECT, SORT_CLASS, false, 0L);
            setKnown(COMPARABLE, SORT_INTERFACE, false, aboves[OBJECT]);
            setKnown(SERIALIZABLE, SORT_INTERFACE, false, aboves[OBJECT]);
            setKnown(CLONEABLE, SORT_INTERFACE, false, aboves[OBJECT]);
            setKnown(NUMBER, SORT_CLASS, false, aboves[SERIALIZABLE]);
            long aboveText = aboves[COMPARABLE] | aboves[SERIALIZABLE];
            long aboveNumberBox = aboves[NUMBER] | aboves[COMPARABLE];
            for (int t = FIRST_BOX; t <= LAST_BOX; t++) {
                boolean ofNumber = t >= FIRST_BOX + BYTE;
                setKnown(t, SORT_CLASS, true, ofNumber ? aboveNumberBox : aboveText);
            }
            setKnown(STRING, SORT_CLASS, true, aboveText);
            setKnown(NULL, SORT_NULL, false, 0L);
            for (int t = FIRST_BOX; t < NULL; t++) {
                aboves[NULL] |= bit(t);
            }
            size = FIRST_TOLD;
        }

        private void setKnown(int t, int sort, boolean isFinal, long above) {
            sorts[t] = sort;
            finals[t] = isFinal;
            elements[t] = NONE;
            aboves[t] = above | bit(t);
        }

        private static long bit(int t) {
            return 1L << t;
        }

        int size() {
            return size;
        }

        boolean isFull() {
            return size >= MOST_TYPES;
        }

        boolean has(int t) {
            return t >= 0 && t < size;
        }

        int sortOf(int t) {
            return sorts[t];
        }

        boolean isFinal(int t) {
            return finals[t];
        }

        int elementOf(int t) {
            return elements[t];
        }

        int countAbove(int t) {
            return Long.bitCount(aboves[t]);
        }

        boolean isUnder(int s, int t) {
            return (aboves[s] & bit(t)) != 0L;
        }

        boolean mayHaveSubclass(int t) {
            return sorts[t] == SORT_CLASS && !finals[t] && t != NUMBER;
        }

        int arrayOf(int element) {
            for (int t = FIRST_TOLD; t < size; t++) {
                if (sorts[t] == SORT_ARRAY && elements[t] == element) {
                    return t;
                }
            }
            return NONE;
        }

        int addClass(int parent, int face, boolean isFinal) {
            return add(SORT_CLASS, isFinal, aboves[parent] | aboveOrNothing(face));
        }

        int addInterface(int one, int two) {
            long above = aboves[OBJECT] | aboveOrNothing(one) | aboveOrNothing(two);
            return add(SORT_INTERFACE, false, above);
        }

        int addArray(int element) {
            int t = add(SORT_ARRAY, false, aboves[CLONEABLE] | aboves[SERIALIZABLE]);
            elements[t] = element;
            for (int other = FIRST_TOLD; other < t; other++) {
                if (sorts[other] == SORT_ARRAY) {
                    placeArrays(t, other);
                }
            }
            return t;
        }

        // An ARRAY may come after those that are UNDER it, so both ways have to be looked at.
        private void placeArrays(int one, int two) {
            if (isUnder(elements[one], elements[two])) {
                aboves[one] |= bit(two);
            }
            if (isUnder(elements[two], elements[one])) {
                aboves[two] |= bit(one);
            }
        }

        private int add(int sort, boolean isFinal, long above) {
            int t = size;
            setKnown(t, sort, isFinal, above);
            aboves[NULL] |= bit(t);
            size++;
            return t;
        }

        private long aboveOrNothing(int t) {
            return t == NONE ? 0L : aboves[t];
        }

        // Of two ARRAYS of references both UNDER and DOWN are those of their elements, so it is
        // enough to look at the first pair of elements that are not both such ARRAYS.
        boolean goesDown(int from, int to) {
            int s = from;
            int t = to;
            for (int depth = 0; depth < MOST_TYPES; depth++) {
                if (!isArrayOfReferences(s) || !isArrayOfReferences(t)) {
                    break;
                }
                s = elements[s];
                t = elements[t];
            }
            if (s == NULL || t == NULL || isUnder(s, t)) {
                return false;
            }
            return isUnder(t, s) || mayShareObjects(s, t);
        }

        private boolean isArrayOfReferences(int t) {
            return sorts[t] == SORT_ARRAY && elements[t] > DOUBLE;
        }

        // A CLASS that is not FINAL may have one under it that has the INTERFACE, too.
        private boolean mayShareObjects(int s, int t) {
            if (sorts[s] == SORT_INTERFACE) {
                return sorts[t] == SORT_INTERFACE || isOpenClass(t);
            }
            return sorts[t] == SORT_INTERFACE && isOpenClass(s);
        }

        private boolean isOpenClass(int t) {
            return sorts[t] == SORT_CLASS && !finals[t];
        }
    }

    /**
     * How float and double hold a number: as whole numbers alone, since the language's rules leave
     * no way from a double to its BITS.
     */
    private enum Format {
        OF_FLOAT(24, -149, 0x7f800000L, 0x7fc00000L, -2147483648L),
        OF_DOUBLE(53, -1074, 0x7ff0000000000000L, 0x7ff8000000000000L, -9223372036854775808L);

        /** Only a double loses more bits than this, and it has fewer, so that nothing is left. */
        private static final int MOST_CUT = 60;

        private final int precision;
        private final int lowestExponent;
        private final long infinity;
        private final long nan;
        private final long sign;

        Format(int precision, int lowestExponent, long infinity, long nan, long sign) {
            this.precision = precision;
            this.lowestExponent = lowestExponent;
            this.infinity = infinity;
            this.nan = nan;
            this.sign = sign;
        }

        private long withoutSign(long bits) {
            return bits & ~sign;
        }

        private long withSign(boolean negative, long magnitude) {
            return negative ? magnitude | sign : magnitude;
        }

        private long exponentField(long bits) {
            return withoutSign(bits) >>> precision - 1;
        }

        private long significand(long bits) {
            long hidden = 1L << precision - 1;
            long fraction = withoutSign(bits) & hidden - 1L;
            return exponentField(bits) == 0L ? fraction : fraction | hidden;
        }

        private int exponent(long bits) {
            return lowestExponent + (int) Math.max(exponentField(bits), 1L) - 1;
        }

        long fromLong(long whole) {
            boolean negative = whole < 0L;
            // The least long has no positive one; its wrapped self, read without sign, is right.
            return withSign(negative, nearest(negative ? -whole : whole, 0));
        }

        long fromFormat(Format other, long bits) {
            long magnitude = other.withoutSign(bits);
            if (magnitude > other.infinity) {
                return nan;
            }
            boolean negative = bits < 0L;
            if (magnitude == other.infinity) {
                return withSign(negative, infinity);
            }
            return withSign(negative, nearest(other.significand(bits), other.exponent(bits)));
        }

        long toLong(long bits) {
            if (withoutSign(bits) > infinity) {
                return 0L;
            }
            boolean negative = bits < 0L;
            long significand = significand(bits);
            int exponent = exponent(bits);
            if (exponent + widthOf(significand) > 63) {
                return negative ? -9223372036854775808L : 9223372036854775807L;
            }
            long magnitude = shifted(significand, exponent);
            return negative ? -magnitude : magnitude;
        }

        private static int widthOf(long significand) {
            return 64 - Long.numberOfLeadingZeros(significand);
        }

        private static long shifted(long significand, int exponent) {
            if (exponent >= 0) {
                return significand << exponent;
            }
            return exponent < -63 ? 0L : significand >>> -exponent;
        }

        // A significand that fills the precision adds 1 to the exponent's field by its highest bit,
        // and one that is rounded beyond it adds 2, so the parts are put together by a sum.
        private long nearest(long significand, int exponent) {
            if (significand == 0L) {
                return 0L;
            }
            int kept = Math.max(exponent + widthOf(significand) - precision, lowestExponent);
            long rounded = rounded(significand, kept - exponent);
            long field = kept - lowestExponent;
            return Math.min((field << precision - 1) + rounded, infinity);
        }

        private static long rounded(long significand, int cut) {
            if (cut <= 0) {
                return significand << -cut;
            }
            if (cut > MOST_CUT) {
                return 0L;
            }
            long whole = significand >>> cut;
            long rest = significand & (1L << cut) - 1L;
            long half = 1L << cut - 1;
            boolean up = rest > half || rest == half && (whole & 1L) == 1L;
            return up ? whole + 1L : whole;
        }
    }
}
