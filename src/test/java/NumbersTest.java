import java.util.Random;

/** FLOAT and DOUBLE: widening and sums against the machine's own arithmetic. */
final class NumbersTest {
    private static final Check check = new Check("NumbersTest");
    private static final Random random = new Random(20261116);
    private static final int ROUNDS = 3000;
    /** An object is good for 512 calls. */
    private static final int A_ROUND = 6;
    private static final long[] WHOLES = {0, 1, -1, 2, 3, 16777215, 16777216, 16777217, 16777218, 16777219, -16777217,
        33554431, 33554433, 33554434, 33554435, 33554438, Integer.MAX_VALUE, Integer.MIN_VALUE, 2147483583L, 2147483584L,
        2147483585L, (1L << 53) - 1, 1L << 53, (1L << 53) + 1, (1L << 53) + 2, (1L << 53) + 3, (1L << 54) + 2,
        (1L << 54) + 6, -(1L << 53) - 1, Long.MAX_VALUE, Long.MIN_VALUE, Long.MIN_VALUE + 1, Long.MAX_VALUE - 511,
        Long.MAX_VALUE - 512, Long.MAX_VALUE - 1023, 0x7fffff4000000000L, 0x7fffffbfffffffffL, 0x7fffffc000000000L,
        0x7fffffc000000001L};
    private static final float[] FLOATS = {0f, -0f, 1f, -1f, Float.MIN_VALUE, -Float.MIN_VALUE, Float.MIN_NORMAL,
        -Float.MIN_NORMAL, Float.MAX_VALUE, -Float.MAX_VALUE, Float.POSITIVE_INFINITY, Float.NEGATIVE_INFINITY, 0.1f,
        1.17549421E-38f, 16777216f, 16777215f, 0.5f, 1.5f, 3.4028233E38f, 1.0141205E31f, 1.0141204E31f, 2.028241E31f};
    private static final double[] DOUBLES = {0, -0.0, 1, -1, Double.MIN_VALUE, -Double.MIN_VALUE, Double.MIN_NORMAL,
        -Double.MIN_NORMAL, Double.MAX_VALUE, -Double.MAX_VALUE, Double.POSITIVE_INFINITY, Double.NEGATIVE_INFINITY, 0.1,
        2.225073858507201E-308, 9007199254740992.0, 9007199254740991.0, 0.5, 1.5, 1.7976931348623155E308,
        9.979201547673599E291, 9.9792015476736E291, 1.99584030953472E292};

    private static ReflectMirror x;
    private static final int[][] sum = new int[8][8];

    public static void main(String[] args) {
        for (long whole : WHOLES) {
            fresh();
            widenWhole(whole);
        }
        for (float f : FLOATS) {
            fresh();
            widenFloat(f);
        }
        edges();
        for (int round = 0; round < ROUNDS; round++) {
            fresh();
            for (int i = 0; i < A_ROUND; i++) {
                any();
            }
        }
        check.end();
    }

    private static void fresh() {
        x = new ReflectMirror();
        int a = x.type(8, 0, false);
        int[] kinds = {4, 5, 6, 7};
        for (int p : kinds) {
            for (int q : kinds) {
                sum[p][q] = x.method(a, 0, 5, Math.max(p, q), 2, p, q, 0);
                x.body(sum[p][q], 6, 0, 1);
            }
        }
        for (int k = 0; k < 8; k++) {
            x.field(a, k, 5, k);
        }
    }

    private static int fieldOf(int kind) {
        return 16 + kind;
    }

    private static long widened(int from, long bits, int to) {
        check.due("slot", x.slot(0, from, bits), 1);
        check.due("set", x.set(fieldOf(to), -1, 0), 1);
        check.due("get", x.get(fieldOf(to), -1, to, 1), 1);
        return x.bits(1);
    }

    private static void widenWhole(long w) {
        check.due("long " + w + " to float", widened(5, w, 6), Float.floatToIntBits((float) w));
        check.due("long " + w + " to double", widened(5, w, 7), Double.doubleToLongBits((double) w));
        if (w == (int) w) {
            check.due("int " + w + " to float", widened(4, w, 6), Float.floatToIntBits((float) (int) w));
            check.due("int " + w + " to double", widened(4, w, 7), Double.doubleToLongBits((int) w));
        }
    }

    private static void widenFloat(float f) {
        check.due("float " + f + " to double", widened(6, Float.floatToIntBits(f), 7), Double.doubleToLongBits(f));
    }

    private static void dueSum(int p, long a, int q, long b, boolean isNumber, long want) {
        x.slot(0, p, a);
        x.slot(1, q, b);
        x.slot(2, 0, 1);
        check.due("sum of " + p + ": " + a + " and " + q + ": " + b, x.call(sum[p][q], -1, 2, 2), isNumber ? 1 : -19);
        check.due("sum of " + p + ": " + a + " and " + q + ": " + b, x.bits(2), isNumber ? want : 1);
        if (!isNumber) {
            check.due("by", x.cause(0), 2);
        }
    }

    private static void sumFloats(float a, float b) {
        float c = a + b;
        dueSum(6, Float.floatToIntBits(a), 6, Float.floatToIntBits(b), !Float.isNaN(c), Float.floatToIntBits(c));
    }

    private static void sumDoubles(double a, double b) {
        double c = a + b;
        dueSum(7, Double.doubleToLongBits(a), 7, Double.doubleToLongBits(b), !Double.isNaN(c), Double.doubleToLongBits(c));
    }

    private static void sumMixed(long w, float f, double d) {
        long fBits = Float.floatToIntBits(f);
        long dBits = Double.doubleToLongBits(d);
        dueSum(5, w, 6, fBits, true, Float.floatToIntBits(w + f));
        dueSum(6, fBits, 4, (int) w, true, Float.floatToIntBits(f + (int) w));
        dueSum(7, dBits, 5, w, true, Double.doubleToLongBits(d + w));
        dueSum(4, (int) w, 7, dBits, true, Double.doubleToLongBits((int) w + d));
        double both = f + d;
        dueSum(6, fBits, 7, dBits, !Double.isNaN(both), Double.doubleToLongBits(both));
        dueSum(4, (int) w, 5, w, true, (int) w + w);
        dueSum(4, (int) w, 4, (int) w, true, (int) w + (int) w);
    }

    private static void edges() {
        for (float a : FLOATS) {
            fresh();
            for (float b : FLOATS) {
                sumFloats(a, b);
                sumFloats(a, -b);
            }
        }
        for (double a : DOUBLES) {
            fresh();
            for (double b : DOUBLES) {
                sumDoubles(a, b);
                sumDoubles(a, -b);
            }
        }
    }

    private static void any() {
        long w = random.nextLong() >> random.nextInt(64);
        float f = anyFloat();
        double d = anyDouble();
        widenWhole(w);
        widenFloat(f);
        sumFloats(f, anyFloat());
        sumFloats(f, nearFloat(f));
        sumDoubles(d, anyDouble());
        sumDoubles(d, nearDouble(d));
        sumMixed(w, f, d);
    }

    private static float anyFloat() {
        if (random.nextInt(8) == 0) {
            return FLOATS[random.nextInt(FLOATS.length)];
        }
        float f = Float.intBitsToFloat(random.nextInt());
        return Float.isNaN(f) ? 1f : f;
    }

    /** Of an exponent not far off, or nearly the negative: there the rounding is hard. */
    private static float nearFloat(float f) {
        int bits = Float.floatToIntBits(f) ^ random.nextInt() >>> random.nextInt(32) ^ random.nextInt(2) << 31;
        float near = Float.intBitsToFloat(bits + (random.nextInt(61) - 30 << 23) * random.nextInt(2));
        return Float.isNaN(near) ? -f : near;
    }

    private static double anyDouble() {
        if (random.nextInt(8) == 0) {
            return DOUBLES[random.nextInt(DOUBLES.length)];
        }
        double d = Double.longBitsToDouble(random.nextLong());
        return Double.isNaN(d) ? 1 : d;
    }

    private static double nearDouble(double d) {
        long bits = Double.doubleToLongBits(d) ^ random.nextLong() >>> random.nextInt(64) ^ (long) random.nextInt(2) << 63;
        double near = Double.longBitsToDouble(bits + ((long) random.nextInt(121) - 60 << 52) * random.nextInt(2));
        return Double.isNaN(near) ? -d : near;
    }
}
