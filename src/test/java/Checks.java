/** Counts and prints the answers that are not the ones that are due. */
final class Checks {
    /** What stands for a thrown exception where an answer is told as a text. */
    static final String CLASS_CAST = "throws.ClassCastException";
    static final String NULL_POINTER = "throws.NullPointerException";

    private int wrong = 0;
    private int seen = 0;

    void due(String call, long got, long want) {
        due(call, Long.toString(got), Long.toString(want));
    }

    void due(String call, String got, String want) {
        seen++;
        if (!got.equals(want)) {
            wrong++;
            System.out.println(call + " answered " + got + ", due is " + want);
        }
    }

    void end() {
        System.out.println(seen + " answers, " + wrong + " not as due");
        if (wrong != 0 || seen == 0) {
            System.exit(1);
        }
    }

    static String unboxed(ConversionTables x, int object, int box) {
        try {
            return Long.toString(x.unboxed(object, box));
        } catch (ClassCastException e) {
            return CLASS_CAST;
        } catch (NullPointerException e) {
            return NULL_POINTER;
        }
    }
}
