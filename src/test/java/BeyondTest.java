/** "beyond it the least or greatest one", roundings at the ends of FLOATS and DOUBLES, and "1e9 or more without sign". */
public final class BeyondTest {
    private static final double INF = Double.POSITIVE_INFINITY;
    private static final double NAN = Double.NaN;
    private static final long INT_MAX = Integer.MAX_VALUE;
    private static final long INT_MIN = Integer.MIN_VALUE;
    private static final long MAX = Long.MAX_VALUE;
    private static final long MIN = Long.MIN_VALUE;
    private static final double TWO_63 = 9223372036854775808.0;

    public static void main(String[] args) {
        doublesToInts();
        doublesToLongs();
        floatsToWholes();
        realsToNarrowOnes();
        doublesToFloats();
        wholesToReals();
        nearestOfDoubles();
        nearestOfFloats();
        endsOfMath();
        overflow();
        middlesOfDoubles();
        middlesOfFloats();
        wholesTurnedToDoubles();
        farAway();
        besideTheBand();
        Due.end("BeyondTest");
    }

    private static void turns(int kind, double x, long due) {
        Calls c = new Calls();
        c.giveDoubles(0, x);
        c.yes("23", "turn", kind, 0, 1);
        c.cells("23 " + x + " to KIND " + kind, 1, kind, due);
    }

    private static void turns(int kind, float x, long due) {
        Calls c = new Calls();
        c.giveFloats(0, x);
        c.yes("23", "turn", kind, 0, 1);
        c.cells("23 the FLOAT " + x + " to KIND " + kind, 1, kind, due);
    }

    /** "FLOATS and DOUBLES to INT and LONG: towards 0, NaN 0, beyond it the least or greatest one". */
    private static void doublesToInts() {
        turns(Due.INT, 2147483647.0, INT_MAX);
        turns(Due.INT, 2147483647.9, INT_MAX);
        turns(Due.INT, 2147483648.0, INT_MAX);
        turns(Due.INT, 2147483646.9, INT_MAX - 1);
        turns(Due.INT, -2147483648.0, INT_MIN);
        turns(Due.INT, -2147483648.9, INT_MIN);
        turns(Due.INT, -2147483649.0, INT_MIN);
        turns(Due.INT, -2147483647.9, INT_MIN + 1);
        turns(Due.INT, 4294967296.0, INT_MAX);
        turns(Due.INT, -4294967297.0, INT_MIN);
        turns(Due.INT, 1e300, INT_MAX);
        turns(Due.INT, -1e300, INT_MIN);
        turns(Due.INT, INF, INT_MAX);
        turns(Due.INT, -INF, INT_MIN);
        turns(Due.INT, NAN, 0);
        turns(Due.INT, 0.99999, 0);
        turns(Due.INT, -0.99999, 0);
        turns(Due.INT, -1.99999, -1);
    }

    private static void doublesToLongs() {
        turns(Due.LONG, Math.nextDown(TWO_63), 9223372036854774784L);
        turns(Due.LONG, TWO_63, MAX);
        turns(Due.LONG, Math.nextUp(TWO_63), MAX);
        turns(Due.LONG, -TWO_63, MIN);
        turns(Due.LONG, Math.nextUp(-TWO_63), -9223372036854774784L);
        turns(Due.LONG, Math.nextDown(-TWO_63), MIN);
        turns(Due.LONG, 2 * TWO_63, MAX);
        turns(Due.LONG, Double.MAX_VALUE, MAX);
        turns(Due.LONG, -Double.MAX_VALUE, MIN);
        turns(Due.LONG, INF, MAX);
        turns(Due.LONG, -INF, MIN);
        turns(Due.LONG, NAN, 0);
        turns(Due.LONG, Double.MIN_VALUE, 0);
        turns(Due.LONG, 4503599627370495.5, 4503599627370495L);
        turns(Due.LONG, -4503599627370495.5, -4503599627370495L);
        turns(Due.LONG, 2147483648.5, 2147483648L);
    }

    private static void floatsToWholes() {
        turns(Due.INT, 2147483520f, 2147483520L);
        turns(Due.INT, 2147483648f, INT_MAX);
        turns(Due.INT, -2147483648f, INT_MIN);
        turns(Due.INT, -2147483904f, INT_MIN);
        turns(Due.INT, Float.MAX_VALUE, INT_MAX);
        turns(Due.INT, Float.NEGATIVE_INFINITY, INT_MIN);
        turns(Due.INT, Float.NaN, 0);
        turns(Due.INT, 1.99999f, 1);
        turns(Due.INT, -1.99999f, -1);
        turns(Due.LONG, Math.nextDown((float) TWO_63), 9223371487098961920L);
        turns(Due.LONG, (float) TWO_63, MAX);
        turns(Due.LONG, -(float) TWO_63, MIN);
        turns(Due.LONG, Math.nextDown(-(float) TWO_63), MIN);
        turns(Due.LONG, Float.POSITIVE_INFINITY, MAX);
        turns(Due.LONG, Float.NaN, 0);
    }

    /** "to BYTE, SIGN, SHORT: to INT, and then the lowest bits". */
    private static void realsToNarrowOnes() {
        double[] given = {127, 128, 255.9, 256, -128, -129, -1, 32767, 32768, -32768, -32769, 65535, 65536, -65536, 2147483647.0, 2147483648.0, 1e19, INF,
            -2147483648.0, -2147483649.0, -1e19, -INF, NAN, -0.0, 0.9, -0.9};
        for (double x : given) {
            turns(Due.BYTE, x, (byte) (int) x);
            turns(Due.SIGN, x, (char) (int) x);
            turns(Due.SHORT, x, (short) (int) x);
            turns(Due.BYTE, (float) x, (byte) (int) (float) x);
            turns(Due.SIGN, (float) x, (char) (int) (float) x);
            turns(Due.SHORT, (float) x, (short) (int) (float) x);
        }
        turns(Due.BYTE, 1e19, -1);
        turns(Due.SIGN, 1e19, 65535);
        turns(Due.SHORT, 1e19, -1);
        turns(Due.BYTE, -1e19, 0);
        turns(Due.SIGN, -1e19, 0);
        turns(Due.SHORT, -1e19, 0);
        turns(Due.BYTE, NAN, 0);
        turns(Due.SIGN, -1.5, 65535);
    }

    /** "rounded to the nearest, even in the middle": the middles at both ends of the FLOATS. */
    private static void doublesToFloats() {
        double lastMiddle = Float.MAX_VALUE + Math.ulp((double) Float.MAX_VALUE) * (1L << 28);
        double firstMiddle = Float.MIN_VALUE / 2.0;
        turns(Due.FLOAT, lastMiddle, Due.bits(Float.POSITIVE_INFINITY));
        turns(Due.FLOAT, Math.nextDown(lastMiddle), Due.bits(Float.MAX_VALUE));
        turns(Due.FLOAT, -lastMiddle, Due.bits(Float.NEGATIVE_INFINITY));
        turns(Due.FLOAT, Math.nextUp(-lastMiddle), Due.bits(-Float.MAX_VALUE));
        turns(Due.FLOAT, Double.MAX_VALUE, Due.bits(Float.POSITIVE_INFINITY));
        turns(Due.FLOAT, firstMiddle, 0);
        turns(Due.FLOAT, Math.nextUp(firstMiddle), 1);
        turns(Due.FLOAT, -firstMiddle, Due.bits(-0f));
        turns(Due.FLOAT, Math.nextDown(-firstMiddle), Due.bits(-Float.MIN_VALUE));
        turns(Due.FLOAT, 3 * firstMiddle, 2);
        turns(Due.FLOAT, Math.nextDown(3 * firstMiddle), 1);
        turns(Due.FLOAT, Double.MIN_VALUE, 0);
        turns(Due.FLOAT, -Double.MIN_VALUE, Due.bits(-0f));
        turns(Due.FLOAT, 16777217.0, Due.bits(16777216f));
        turns(Due.FLOAT, 16777219.0, Due.bits(16777220f));
        turns(Due.FLOAT, Math.nextUp(16777217.0), Due.bits(16777218f));
        turns(Due.FLOAT, Math.nextDown((double) Float.MIN_NORMAL), Due.bits(Float.MIN_NORMAL));
    }

    private static void becomes(int kind, long v, long due) {
        Calls c = new Calls();
        c.give(0, Due.LONG, v);
        c.yes("23", "turn", kind, 0, 1);
        c.cells("23 " + v + " to KIND " + kind, 1, kind, due);
    }

    /** "(a whole number to a FLOAT or DOUBLE likewise)": rounded once, from the whole number itself. */
    private static void wholesToReals() {
        long[] given = {16777215, 16777216, 16777217, 16777218, 16777219, -16777217, -16777219, 33554433, 33554434, 33554435, 9007199254740991L,
            9007199254740992L, 9007199254740993L, 9007199254740994L, 9007199254740995L, -9007199254740993L, MAX, MAX - 512, MAX - 511, MIN, MIN + 1,
            (1L << 62) + (1L << 38), (1L << 62) + (1L << 38) + 1, (1L << 62) + (1L << 38) - 1, (1L << 62) + (3L << 38)};
        for (long v : given) {
            becomes(Due.FLOAT, v, Due.bits((float) v));
            becomes(Due.DOUBLE, v, Due.bits((double) v));
        }
        becomes(Due.FLOAT, 16777217, Due.bits(16777216f));
        becomes(Due.DOUBLE, 9007199254740993L, Due.bits(9007199254740992.0));
        becomes(Due.DOUBLE, MAX, Due.bits(TWO_63));
        becomes(Due.FLOAT, (1L << 62) + (1L << 38) + 1, Due.bits(Math.nextUp((float) (1L << 62))));
    }

    private static void nearest(double x, long due) {
        Calls c = new Calls();
        c.giveDoubles(0, x);
        c.yes("25", "math", 11, 0, 1);
        c.cells("25 nearest of " + x, 1, Due.LONG, due);
    }

    private static void nearest(float x, long due) {
        Calls c = new Calls();
        c.giveFloats(0, x);
        c.yes("25", "math", 11, 0, 1);
        c.cells("25 nearest of the FLOAT " + x, 1, Due.INT, due);
    }

    /** "the nearest whole number, upwards in the middle .. (beyond it the least or greatest; NaN 0)". */
    private static void nearestOfDoubles() {
        nearest(0.5, 1);
        nearest(-0.5, 0);
        nearest(1.5, 2);
        nearest(-1.5, -1);
        nearest(2.5, 3);
        nearest(-2.5, -2);
        nearest(Math.nextDown(0.5), 0);
        nearest(Math.nextDown(-0.5), -1);
        nearest(Math.nextUp(-0.5), 0);
        nearest(4503599627370495.5, 4503599627370496L);
        nearest(-4503599627370495.5, -4503599627370495L);
        nearest(4503599627370497.0, 4503599627370497L);
        nearest(9007199254740991.0, 9007199254740991L);
        nearest(Math.nextDown(TWO_63), 9223372036854774784L);
        nearest(TWO_63, MAX);
        nearest(-TWO_63, MIN);
        nearest(Math.nextDown(-TWO_63), MIN);
        nearest(INF, MAX);
        nearest(-INF, MIN);
        nearest(NAN, 0);
        nearest(-0.0, 0);
        nearest(Double.MIN_VALUE, 0);
        nearest(-Double.MIN_VALUE, 0);
    }

    private static void nearestOfFloats() {
        nearest(0.5f, 1);
        nearest(-0.5f, 0);
        nearest(2.5f, 3);
        nearest(-2.5f, -2);
        nearest(Math.nextDown(0.5f), 0);
        nearest(Math.nextDown(-0.5f), -1);
        nearest(8388607.5f, 8388608);
        nearest(-8388607.5f, -8388607);
        nearest(8388609f, 8388609);
        nearest(2147483520f, 2147483520L);
        nearest(2147483648f, INT_MAX);
        nearest(-2147483648f, INT_MIN);
        nearest(-2147483904f, INT_MIN);
        nearest(1e19f, INT_MAX);
        nearest(-1e19f, INT_MIN);
        nearest(Float.POSITIVE_INFINITY, INT_MAX);
        nearest(Float.NEGATIVE_INFINITY, INT_MIN);
        nearest(Float.NaN, 0);
    }

    private static void maths(int op, double x, double due) {
        Calls c = new Calls();
        c.giveDoubles(0, x);
        c.yes("25", "math", op, 0, 1);
        c.doubles("25 op " + op + " of " + x, 1, due);
    }

    private static void maths(int op, float x, float due) {
        Calls c = new Calls();
        c.giveFloats(0, x);
        c.yes("25", "math", op, 0, 1);
        c.floats("25 op " + op + " of the FLOAT " + x, 1, due);
    }

    /** The distance to the next greater one, the next greater one and times 8, at the ends of both KINDS. */
    private static void endsOfMath() {
        maths(6, Double.MAX_VALUE, 1.9958403095347198e292);
        maths(6, -Double.MAX_VALUE, 1.9958403095347198e292);
        maths(6, INF, INF);
        maths(6, -INF, INF);
        maths(6, Double.MIN_NORMAL, Double.MIN_VALUE);
        maths(6, Double.MIN_VALUE, Double.MIN_VALUE);
        maths(6, 1.0, Math.pow(2, -52));
        maths(6, Math.nextDown(1.0), Math.pow(2, -53));
        maths(7, Double.MAX_VALUE, INF);
        maths(7, INF, INF);
        maths(7, -INF, -Double.MAX_VALUE);
        maths(7, Double.MAX_VALUE / 2, Math.nextUp(Double.MAX_VALUE / 2));
        maths(7, -1.0, Math.nextUp(-1.0));
        maths(10, Double.MAX_VALUE / 8, Double.MAX_VALUE);
        maths(10, Math.nextUp(Double.MAX_VALUE / 8), INF);
        maths(10, -Double.MAX_VALUE, -INF);
        maths(10, Double.MIN_VALUE, 8 * Double.MIN_VALUE);
        maths(6, Float.MAX_VALUE, 2.028241e31f);
        maths(6, Float.NEGATIVE_INFINITY, Float.POSITIVE_INFINITY);
        maths(6, Float.MIN_NORMAL, Float.MIN_VALUE);
        maths(6, 1f, (float) Math.pow(2, -23));
        maths(7, Float.MAX_VALUE, Float.POSITIVE_INFINITY);
        maths(7, Float.POSITIVE_INFINITY, Float.POSITIVE_INFINITY);
        maths(7, Float.NEGATIVE_INFINITY, -Float.MAX_VALUE);
        maths(10, Float.MAX_VALUE / 8, Float.MAX_VALUE);
        maths(10, Float.MAX_VALUE / 4, Float.POSITIVE_INFINITY);
        maths(10, Float.MIN_VALUE, 8 * Float.MIN_VALUE);
        exponents(new double[] {Double.MAX_VALUE, Double.MIN_NORMAL, Math.nextDown(Double.MIN_NORMAL), Double.MIN_VALUE, 1, -2}, 1023, -1022, -1023, -1023, 0, 1);
    }

    private static void exponents(double[] given, long... due) {
        Calls c = new Calls();
        c.giveDoubles(0, given);
        c.yes("25", "math", 9, 0, 1);
        c.cells("25 exponents", 1, Due.INT, due);
        c.giveFloats(0, Float.MAX_VALUE, Float.MIN_NORMAL, Float.MIN_VALUE, 1f, -0.5f);
        c.yes("25", "math", 9, 0, 1);
        c.cells("25 exponents of FLOATS", 1, Due.INT, 127, -126, -127, 0, -1);
    }

    /** DOUBLES and FLOATS that outgrow their KIND become infinite; those that are too small become 0 with their sign. */
    private static void overflow() {
        Calls c = new Calls();
        c.giveDoubles(0, Double.MAX_VALUE, -Double.MAX_VALUE, Double.MIN_VALUE, -Double.MIN_VALUE);
        c.giveDoubles(1, 2, 2, 0.5, 0.5);
        c.ask("reckon", 2, 0, 1, 2);
        c.doubles("19 *", 2, INF, -INF, 0.0, -0.0);
        c.giveFloats(0, Float.MAX_VALUE, -Float.MAX_VALUE, Float.MIN_VALUE, -Float.MIN_VALUE);
        c.giveFloats(1, 2f, 2f, 0.5f, 0.5f);
        c.ask("reckon", 2, 0, 1, 2);
        c.floats("19 *", 2, Float.POSITIVE_INFINITY, Float.NEGATIVE_INFINITY, 0f, -0f);
        c.giveFloats(3, -Float.MAX_VALUE, Float.MAX_VALUE, 0f, -0f);
        c.ask("fuse", 0, 1, 3, 2);
        c.floats("26 the product is rounded to a FLOAT first", 2, Float.POSITIVE_INFINITY, Float.NEGATIVE_INFINITY, 0f, -0f);
    }

    private static void reckons(int op, double a, double b, double due) {
        Calls c = new Calls();
        c.giveDoubles(0, a);
        c.giveDoubles(1, b);
        c.yes("19", "reckon", op, 0, 1, 2);
        c.doubles("19 op " + op + " of " + a + ", " + b, 2, due);
    }

    /** "rounded to the nearest, even in the middle": at the middle, and beside it by as little as there is. */
    private static void middlesOfDoubles() {
        double ulp = Math.ulp(1.0);
        reckons(0, 1, ulp / 2, 1);
        reckons(0, 1, Math.nextUp(ulp / 2), 1 + ulp);
        reckons(0, 1 + ulp, ulp / 2, 1 + 2 * ulp);
        reckons(0, 1 + ulp, Math.nextDown(ulp / 2), 1 + ulp);
        reckons(1, 1, ulp / 4, 1);
        reckons(1, 1, Math.nextUp(ulp / 4), 1 - ulp / 2);
        reckons(1, 1, Double.MIN_VALUE, 1);
        reckons(2, 134217729, 67108865, 9007199456067584.0);
        double[] mantissas = {1, 1 + ulp, 1 + 2 * ulp, 1.5, 1.5 + ulp, 1.5 - ulp, 2 - ulp, 2 - 2 * ulp, 1 + 0x1p-26, 1 + 0x1p-27, 1 + 0x1p-26 + ulp, 4 / 3.0,
            1.2345678901234567};
        int[] apart = {0, 1, 2, 9, 10, 51, 52, 53, 54, 55, 56, 62, 63, 64, 65, 1000};
        for (double a : mantissas) {
            for (double m : mantissas) {
                for (int power : apart) {
                    double b = Math.scalb(m, -power);
                    reckons(0, a, b, a + b);
                    reckons(1, a, b, a - b);
                    reckons(1, b, a, b - a);
                    reckons(2, a, b, a * b);
                    reckons(3, a, b, a / b);
                    reckons(3, b, a, b / a);
                }
            }
        }
    }

    private static void middlesOfFloats() {
        float ulp = Math.ulp(1f);
        float[] mantissas = {1, 1 + ulp, 1 + 2 * ulp, 1.5f, 1.5f + ulp, 2 - ulp, 1 + 0x1p-12f, 1 + 0x1p-11f, 4 / 3f};
        int[] apart = {0, 1, 2, 22, 23, 24, 25, 26, 62, 100};
        for (float a : mantissas) {
            for (float m : mantissas) {
                for (int power : apart) {
                    float b = Math.scalb(m, -power);
                    float[] due = {a + b, a - b, a * b, a / b};
                    Calls c = new Calls();
                    c.giveFloats(0, a);
                    c.giveFloats(1, b);
                    for (int op = 0; op < 4; op++) {
                        c.yes("19", "reckon", op, 0, 1, 2);
                        c.floats("19 op " + op + " of the FLOATS " + a + ", " + b, 2, due[op]);
                    }
                }
            }
        }
        roots();
    }

    private static void roots() {
        double[] given = {2, 3, 4, 0.25, Math.nextUp(4.0), Math.nextDown(4.0), Math.nextUp(1.0), Math.nextDown(1.0), Double.MAX_VALUE, Double.MIN_VALUE,
            3 * Double.MIN_VALUE, Double.MIN_NORMAL, 9007199254740993.0, 1e-310, 0x1.fffffffffffffp500, 0x1.fffffffffffffp501};
        for (double x : given) {
            maths(5, x, Math.sqrt(x));
            maths(5, (float) x, (float) Math.sqrt((float) x));
        }
        maths(5, 4.0, 2.0);
        maths(5, INF, INF);
    }

    /** A LONG that no DOUBLE tells is rounded as it is TURNED, ahead of all that is done with it. */
    private static void wholesTurnedToDoubles() {
        Calls c = new Calls();
        c.give(0, Due.LONG, 9007199254740993L, -9007199254740993L, MAX);
        c.answers("28 least", Due.bits(-9007199254740992.0), "stat", 0, 0);
        c.answers("28 greatest", Due.bits(TWO_63), "stat", 1, 0);
        c.answers("29 NEAR", Due.bits(9007199254740992.0), "sample", 0, 0, 1, 0, 0);
        c.yes("25", "math", 0, 0, 1);
        c.doubles("25 without its sign", 1, 9007199254740992.0, 9007199254740992.0, TWO_63);
        c.ask("scale", 2, Due.bits(1.0), Due.bits(1.0));
        c.yes("27", "apply", 0, 2, 1);
        c.doubles("27 plus 1", 1, 9007199254740992.0, -9007199254740991.0, TWO_63);
        c.giveFloats(3, 1f, 1f, 1f);
        c.yes("22", "compare", 4, 0, 3, 4);
        c.yes("22", "choose", 4, 3, 0, 5);
        c.floats("22 LONGS as FLOATS", 5, 9007199254740992f, -9007199254740992f, (float) TWO_63);
        c.yes("26", "fuse", 3, 3, 0, 5);
        c.doubles("26 FLOATS and LONGS", 5, 9007199254740992.0, -9007199254740991.0, TWO_63);
    }

    /** "Of an x or y that is NaN, or 1e9 or more without sign, all READERS give NaN." */
    private static void farAway() {
        double[] far = {1e9, -1e9, Math.nextUp(1e9), -Math.nextUp(1e9), 1e300, -1e300, INF, -INF};
        for (int reader = 0; reader < 5; reader++) {
            Calls c = new Calls();
            c.give(0, Due.INT, 5);
            for (double x : far) {
                samples(c, reader, x, 0, NAN);
                samples(c, reader, 0, x, NAN);
                samples(c, reader, x, -x, NAN);
            }
        }
        double last = Math.nextDown(1e9);
        for (int sign = -1; sign < 2; sign += 2) {
            Calls c = new Calls();
            c.give(0, Due.INT, 5);
            for (int reader = 1; reader < 4; reader++) {
                samples(c, reader, sign * last, sign * last, 5);
                samples(c, reader, sign * last, 0, 5);
                samples(c, reader, 0, sign * last, 5);
            }
            samples(c, 0, sign * last, 0, NAN);
            samples(c, 4, sign * last, 0, NAN);
            samples(c, 4, 0, sign * last, NAN);
        }
    }

    private static void samples(Calls c, int reader, double x, double y, double due) {
        c.answers("29 at " + x + ", " + y, Due.bits(due), "sample", reader, 0, 1, Due.bits(x), Due.bits(y));
    }

    /** "OUT by CLAMPED for cells beside the band by one (i -1 .. w and j -1 .. h), by PLAIN beyond". */
    private static void besideTheBand() {
        Calls c = new Calls();
        c.give(0, Due.INT, 10, 20, 30, 40);
        double below = Math.nextDown(-1.0);
        double[][] due = {{-1, -1, 10}, {-1, 1, 30}, {1, -1, 20}, {-0.5, 0, 10}, {0, -0.5, 10}, {1.5, 0, 20}, {0, 1.5, 30}, {1.5, 1.5, 40},
            {1, 1, 40}, {Math.nextDown(2.0), Math.nextDown(2.0), 40}, {Math.nextDown(2.0), -1, 20}, {below, 0, NAN}, {0, below, NAN}, {2, 0, NAN},
            {0, 2, NAN}, {below, below, NAN}, {2, 2, NAN}, {-2, 0, NAN}, {3, 0, NAN}, {0, 3, NAN}, {0, -2, NAN}, {-1, 2, NAN}, {2, -1, NAN}};
        for (double[] d : due) {
            c.answers("29 LINEAR", Due.bits(d[2]), "sample", 4, 0, 2, Due.bits(d[0]), Due.bits(d[1]));
        }
        double[][] near = {{-0.5, 0, 10}, {Math.nextDown(-0.5), 0, NAN}, {0, Math.nextDown(-0.5), NAN}, {Math.nextDown(1.5), 1, 40}, {1.5, 1, NAN},
            {1, 1.5, NAN}, {1, Math.nextDown(1.5), 40}};
        for (double[] d : near) {
            c.answers("29 NEAR", Due.bits(d[2]), "sample", 0, 0, 2, Due.bits(d[0]), Due.bits(d[1]));
            double held = Double.isNaN(d[2]) ? (d[0] < 0 || d[1] < 0 ? 10 : 40) : d[2];
            c.answers("29 HELD", Due.bits(held), "sample", 1, 0, 2, Due.bits(d[0]), Due.bits(d[1]));
        }
        c.answers("29 HELD at a corner", Due.bits(20.0), "sample", 1, 0, 2, Due.bits(99.0), Due.bits(-99.0));
        c.answers("29 HELD at a corner", Due.bits(30.0), "sample", 1, 0, 2, Due.bits(-99.0), Due.bits(99.0));
        c.give(0, Due.INT, 10, 20, 30, 40, 50);
        c.answers("29 what is left over is in no line", Due.bits(NAN), "sample", 0, 0, 2, 0, Due.bits(2.0));
        c.answers("29 what is left over is in no line", Due.bits(30.0), "sample", 1, 0, 2, 0, Due.bits(2.0));
        c.answers("29 what is left over is in no line", Due.bits(10.0), "sample", 2, 0, 2, 0, Due.bits(2.0));
        c.answers("29 what is left over is in no line", Due.bits(30.0), "sample", 4, 0, 2, 0, Due.bits(1.5));
    }
}
