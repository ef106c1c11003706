import java.util.Random;

/** Promise 10: turned, beside what Java itself makes of the same numbers. */
public final class Promise10TurnedLikeJavaTest {
    private static final Checks CHECKS = new Checks();

    public static void main(String[] args) {
        ends();
        manyOfEach();
        halves();
        CHECKS.end();
    }

    private static void ends() {
        double[] near = {0.0, 0.5, 1.0, 1.5, 127, 128, 255, 256, 32767, 32768, 65535, 65536, 1e5,
            2147483646.5, 2147483647, 2147483647.5, 2147483648.0, 2147483649.0, 4294967295.0,
            4294967296.0, 9.2e18, 0x1p62, 0x1.fffffffffffffp62, 0x1p63, 0x1.0000000000001p63,
            0x1p64, 1e300, Double.MAX_VALUE, Double.MIN_VALUE, Double.MIN_NORMAL,
            Double.POSITIVE_INFINITY, Float.MAX_VALUE, Float.MIN_VALUE, Float.MIN_NORMAL,
            0x1.fffffefffffffp127, 0x1.ffffffp127, 0x1.ffffff0000001p127, 0x1p128, 0x1p-150,
            0x1.0000000000001p-150, 0x0.fffffffffffffp-150, 0x1.8p-149, 0x1.7ffffffffffffp-149,
            0x1.8000000000001p-149, 0x1.fffffep-127, 0x1.ffffffp-127, 0x1p-1000, 0x1p-200};
        long[] whole = {0, 1, 2, 127, 128, 255, 256, 32767, 32768, 65535, 65536, 1 << 24,
            (1 << 24) + 1, (1 << 24) + 2, (1 << 24) + 3, (1 << 25) + 2, (1 << 25) + 6,
            Integer.MAX_VALUE, Integer.MAX_VALUE - 63, Integer.MAX_VALUE - 64, Integer.MAX_VALUE - 65,
            1L << 31, (1L << 53) - 1, 1L << 53, (1L << 53) + 1, (1L << 53) + 3, (1L << 54) + 2,
            (1L << 54) + 6, Long.MAX_VALUE, Long.MAX_VALUE - 511, Long.MAX_VALUE - 512,
            Long.MAX_VALUE - (1L << 38), Long.MIN_VALUE};
        for (double value : near) {
            for (double v : new double[] {value, -value}) {
                dueAll(7, Double.doubleToLongBits(v));
                dueAll(6, Float.floatToIntBits((float) v));
            }
        }
        for (long value : whole) {
            for (long v : new long[] {value, -value, value + 1, value - 1}) {
                for (int from = 1; from <= 5; from++) {
                    dueAll(from, cut(from, v));
                }
            }
        }
    }

    private static void manyOfEach() {
        Random random = new Random(20261116);
        for (int i = 0; i < 60000; i++) {
            long bits = random.nextLong() >> random.nextInt(64);
            for (int from = 1; from <= 5; from++) {
                dueAll(from, cut(from, bits));
            }
            dueAll(6, random.nextInt());
            dueAll(7, random.nextLong());
            // Most doubles lie beyond long and float; these have exponents near to their ends.
            long exponent = 1023 - 160 + random.nextInt(300);
            long near = random.nextLong() & 0x800fffffffffffffL | exponent << 52;
            dueAll(7, near);
        }
    }

    /** Numbers that lie just in the middle of two floats, and their neighbours. */
    private static void halves() {
        Random random = new Random(17);
        for (int i = 0; i < 30000; i++) {
            float low = Float.intBitsToFloat(random.nextInt(0x7f7fffff));
            double middle = ((double) low + (double) Math.nextUp(low)) / 2;
            for (double v : new double[] {middle, Math.nextUp(middle), Math.nextDown(middle)}) {
                dueAll(7, Double.doubleToLongBits(v));
                dueAll(7, Double.doubleToLongBits(-v));
            }
            int shift = random.nextInt(40);
            long whole = ((random.nextInt() & 0xffffffL | 0x800000L) << 1 | 1) << shift;
            for (long v : new long[] {whole, whole - 1, whole + 1}) {
                dueAll(5, v);
                dueAll(5, -v);
            }
            long wide = (random.nextLong() >>> 11 | 1L << 52) << 1 | 1;
            wide <<= random.nextInt(10);
            for (long v : new long[] {wide, wide - 1, wide + 1}) {
                dueAll(5, v);
                dueAll(5, -v);
            }
        }
    }

    private static long cut(int to, long v) {
        switch (to) {
            case 1:
                return (char) v;
            case 2:
                return (byte) v;
            case 3:
                return (short) v;
            case 4:
                return (int) v;
            default:
                return v;
        }
    }

    // An object of its own for each number, since nothing is promised beyond 512 calls of one.
    private static void dueAll(int from, long bits) {
        ConversionTables x = new ConversionTables();
        for (int to = 1; to <= 7; to++) {
            long got = x.turned(from, bits, to);
            long want = byJava(from, bits, to);
            // The text of a call is dear, so only the wrong ones and one of each number are told.
            if (got != want || to == 1) {
                CHECKS.due("promise 10: turned(" + from + ", " + bits + ", " + to + ")", got, want);
            }
        }
    }

    private static long byJava(int from, long bits, int to) {
        if (from == 7) {
            return ofDouble(Double.longBitsToDouble(bits), to);
        }
        return from == 6 ? ofFloat(Float.intBitsToFloat((int) bits), to) : ofWhole(bits, to);
    }

    private static long ofWhole(long v, int to) {
        if (to == 6) {
            return Float.floatToIntBits((float) v);
        }
        return to == 7 ? Double.doubleToLongBits((double) v) : cut(to, v);
    }

    private static long ofFloat(float v, int to) {
        switch (to) {
            case 1:
                return (char) v;
            case 2:
                return (byte) v;
            case 3:
                return (short) v;
            case 4:
                return (int) v;
            case 5:
                return (long) v;
            case 6:
                return Float.floatToIntBits(v);
            default:
                return Double.doubleToLongBits((double) v);
        }
    }

    private static long ofDouble(double v, int to) {
        switch (to) {
            case 1:
                return (char) v;
            case 2:
                return (byte) v;
            case 3:
                return (short) v;
            case 4:
                return (int) v;
            case 5:
                return (long) v;
            case 6:
                return Float.floatToIntBits((float) v);
            default:
                return Double.doubleToLongBits(v);
        }
    }
}
