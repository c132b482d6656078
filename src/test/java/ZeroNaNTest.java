/** -0 beside 0, and NaN, in every sentence that names them. */
public final class ZeroNaNTest {
    private static final double NAN = Double.NaN;
    private static final double INF = Double.POSITIVE_INFINITY;
    private static final long NAN_BITS = 0x7ff8000000000000L;
    private static final long FLOAT_NAN_BITS = 0x7fc00000L;
    private static final double[] SOME = {0.0, -0.0, 1, -1, 4, -4, 2.5, Double.MIN_VALUE, -Double.MIN_VALUE, INF, -INF, NAN};

    public static void main(String[] args) {
        oneNaNOfDoubles();
        oneNaNOfFloats();
        nanThroughBits();
        rests();
        reckoned();
        minAndMax();
        compared();
        turnedToMarks();
        turnedZeros();
        mathOfZeros();
        mathOfNaN();
        fused();
        applied();
        statOfZeros();
        statOfNaN();
        sampledAtZeros();
        sampledNaN();
        Due.end("ZeroNaNTest");
    }

    /** "(a NaN always as 7fc00000, 7ff8000000000000 in hexadecimal digits)": however it was given, and wherever it went. */
    private static void oneNaNOfDoubles() {
        long[] given = {0x7ff0000000000001L, 0x7fffffffffffffffL, 0xfff0000000000001L, 0xfff8000000000000L, -1, NAN_BITS, 0x7ff7ffffffffffffL};
        for (long bits : given) {
            Calls c = new Calls();
            c.give(0, Due.DOUBLE, bits, 0);
            c.answers("11 NaN", NAN_BITS, "get", 0, Due.DOUBLE, 0);
            c.ask("band", 1, Due.DOUBLE, 2);
            c.ask("move", 0, 0, 1, 1, 1);
            c.answers("18 NaN", NAN_BITS, "get", 1, Due.DOUBLE, 1);
            c.steps(new int[] {5, 0, Due.DOUBLE, 0}, new int[] {8, 0, 2}, new int[] {5, 2, Due.DOUBLE, 1});
            c.ask("job");
            Due.is("34 NaN", c.ask("total"), NAN_BITS);
            c.answers("32 SWAP of a NaN", NAN_BITS, "get", 2, Due.DOUBLE, 0);
            for (int op = 0; op < 4; op++) {
                c.answers("28 NaN", NAN_BITS, "stat", op, 2);
            }
            c.answers("29 NaN", NAN_BITS, "sample", 0, 2, 1, 0, 0);
            c.ask("scale", 3, bits, 0);
            c.ask("apply", 1, 3, 4);
            c.cells("27 a GAIN of NaN", 4, Due.DOUBLE, NAN_BITS, NAN_BITS);
            c.ask("scale", 3, 0, bits);
            c.ask("apply", 1, 3, 4);
            c.cells("27 an OFFSET of NaN", 4, Due.DOUBLE, NAN_BITS, NAN_BITS);
            c.ask("turn", Due.FLOAT, 2, 4);
            c.cells("23 NaN", 4, Due.FLOAT, FLOAT_NAN_BITS, 0);
        }
    }

    private static void oneNaNOfFloats() {
        long[] given = {0x7f800001L, 0x7fffffffL, 0xff800001L, 0xffc00000L, -1, FLOAT_NAN_BITS, 0x7fbfffffL, 0x1234567fffffffL};
        for (long bits : given) {
            Calls c = new Calls();
            c.give(0, Due.FLOAT, bits, 0);
            c.answers("11 NaN", FLOAT_NAN_BITS, "get", 0, Due.FLOAT, 0);
            c.steps(new int[] {6, 0, (int) bits, 1}, new int[] {5, 0, Due.FLOAT, 0}, new int[] {5, 0, Due.FLOAT, 1});
            c.ask("job");
            c.answers("32 PUT of a NaN", FLOAT_NAN_BITS, "get", 0, Due.FLOAT, 1);
            Due.is("34 NaN", c.ask("total"), 2 * FLOAT_NAN_BITS);
            c.ask("turn", Due.DOUBLE, 0, 1);
            c.cells("23 NaN", 1, Due.DOUBLE, NAN_BITS, NAN_BITS);
            c.answers("28 NaN", NAN_BITS, "stat", 2, 0);
            c.answers("28 how many are NaN", Due.bits(2.0), "stat", 4, 0);
        }
    }

    /** bits: "FLOATS as INTS (a NaN as above)". */
    private static void nanThroughBits() {
        Calls c = new Calls();
        c.give(0, Due.INT, -1, 0x7f800001, 0x7fc00000, 0x80000000, 0xff800000);
        c.yes("24", "bits", 0, 1);
        c.cells("24 INTS", 1, Due.FLOAT, FLOAT_NAN_BITS, FLOAT_NAN_BITS, FLOAT_NAN_BITS, Due.bits(-0f), 0xffffffffff800000L);
        c.yes("24", "bits", 1, 2);
        c.cells("24 FLOATS", 2, Due.INT, FLOAT_NAN_BITS, FLOAT_NAN_BITS, FLOAT_NAN_BITS, Integer.MIN_VALUE, 0xffffffffff800000L);
        c.give(0, Due.LONG, -1, 0x7ff0000000000001L, Long.MIN_VALUE, 0xfff0000000000000L);
        c.yes("24", "bits", 0, 1);
        c.cells("24 LONGS", 1, Due.DOUBLE, NAN_BITS, NAN_BITS, Long.MIN_VALUE, 0xfff0000000000000L);
        c.yes("24", "bits", 1, 2);
        c.cells("24 DOUBLES", 2, Due.LONG, NAN_BITS, NAN_BITS, Long.MIN_VALUE, 0xfff0000000000000L);
    }

    private static void gives(String why, int op, double a, double b, double due) {
        Calls c = new Calls();
        c.giveDoubles(0, a);
        c.giveDoubles(1, b);
        c.yes(why, "reckon", op, 0, 1, 2);
        c.doubles(why + " of " + a + ", " + b, 2, due);
        c.giveFloats(0, (float) a);
        c.giveFloats(1, (float) b);
        c.yes(why, "reckon", op, 0, 1, 2);
        c.floats(why + " of " + (float) a + ", " + (float) b, 2, (float) due);
    }

    /** "% is the exact rest with the sign of the first one (NaN of a first one that is no finite number, or by 0)". */
    private static void rests() {
        gives("19 %", 4, 4, 2, 0.0);
        gives("19 %", 4, -4, 2, -0.0);
        gives("19 %", 4, 4, -2, 0.0);
        gives("19 %", 4, -4, -2, -0.0);
        gives("19 %", 4, 5.5, 2, 1.5);
        gives("19 %", 4, -5.5, 2, -1.5);
        gives("19 %", 4, 5.5, -2, 1.5);
        gives("19 %", 4, 0.0, 3, 0.0);
        gives("19 %", 4, -0.0, 3, -0.0);
        gives("19 %", 4, -0.0, -3, -0.0);
        gives("19 % of no finite number", 4, INF, 2, NAN);
        gives("19 % of no finite number", 4, -INF, 2, NAN);
        gives("19 % of no finite number", 4, NAN, 2, NAN);
        gives("19 % of no finite number", 4, INF, INF, NAN);
        gives("19 % by 0", 4, 5, 0.0, NAN);
        gives("19 % by 0", 4, 5, -0.0, NAN);
        gives("19 % by 0", 4, 0.0, 0.0, NAN);
        gives("19 % by 0", 4, -0.0, 0.0, NAN);
        gives("19 % by NaN", 4, 5, NAN, NAN);
        gives("19 % by an infinite one", 4, 5, INF, 5);
        gives("19 % by an infinite one", 4, -5, -INF, -5);
        gives("19 % by an infinite one", 4, -0.0, INF, -0.0);
    }

    /** "FLOATS and DOUBLES by IEEE 754": all that zeros, infinite ones and NaN come to. */
    private static void reckoned() {
        for (double a : SOME) {
            for (double b : SOME) {
                Calls c = new Calls();
                c.giveDoubles(0, a);
                c.giveDoubles(1, b);
                double[] due = {a + b, a - b, a * b, a / b, a % b, Math.min(a, b), Math.max(a, b)};
                for (int op = 0; op < 7; op++) {
                    c.yes("19", "reckon", op, 0, 1, 2);
                    c.doubles("19 op " + op + " of " + a + ", " + b, 2, due[op]);
                }
                float f = (float) a;
                float g = (float) b;
                c.giveFloats(0, f);
                c.giveFloats(1, g);
                float[] floats = {f + g, f - g, f * g, f / g, f % g, Math.min(f, g), Math.max(f, g)};
                for (int op = 0; op < 7; op++) {
                    c.yes("19", "reckon", op, 0, 1, 2);
                    c.floats("19 op " + op + " of " + f + ", " + g, 2, floats[op]);
                }
            }
        }
        gives("19 -0 + 0", 0, -0.0, 0.0, 0.0);
        gives("19 -0 + -0", 0, -0.0, -0.0, -0.0);
        gives("19 0 - 0", 1, 0.0, 0.0, 0.0);
        gives("19 -0 - 0", 1, -0.0, 0.0, -0.0);
        gives("19 1 / -0", 3, 1, -0.0, -INF);
        gives("19 0 / 0", 3, 0.0, -0.0, NAN);
    }

    /** "MIN and MAX are NaN if one is; -0 is less than 0 for them." */
    private static void minAndMax() {
        for (double other : SOME) {
            for (int op = 5; op < 7; op++) {
                gives("19 MIN, MAX", op, NAN, other, NAN);
                gives("19 MIN, MAX", op, other, NAN, NAN);
            }
        }
        gives("19 MIN", 5, 0.0, -0.0, -0.0);
        gives("19 MIN", 5, -0.0, 0.0, -0.0);
        gives("19 MAX", 6, 0.0, -0.0, 0.0);
        gives("19 MAX", 6, -0.0, 0.0, 0.0);
        gives("19 MAX", 6, -0.0, -0.0, -0.0);
        gives("19 MIN", 5, 0.0, 0.0, 0.0);
    }

    /** "by IEEE 754, of a NaN 5 alone is true"; 0 and -0 are equal. */
    private static void compared() {
        for (double a : SOME) {
            for (double b : SOME) {
                boolean[] due = {a < b, a <= b, a > b, a >= b, a == b, a != b};
                Calls c = new Calls();
                c.giveDoubles(0, a);
                c.giveDoubles(1, b);
                for (int op = 0; op < 6; op++) {
                    c.yes("20", "compare", op, 0, 1, 2);
                    c.cells("20 op " + op + " of " + a + ", " + b, 2, Due.MARK, due[op] ? 1 : 0);
                }
                boolean[] floats = {(float) a < (float) b, (float) a <= (float) b, (float) a > (float) b, (float) a >= (float) b, (float) a == (float) b,
                    (float) a != (float) b};
                c.giveFloats(0, (float) a);
                c.giveFloats(1, (float) b);
                for (int op = 0; op < 6; op++) {
                    c.yes("20", "compare", op, 0, 1, 2);
                    c.cells("20 FLOATS op " + op + " of " + a + ", " + b, 2, Due.MARK, floats[op] ? 1 : 0);
                }
            }
        }
        Calls c = new Calls();
        c.giveDoubles(0, NAN, NAN, 1, 0.0);
        c.giveDoubles(1, NAN, 1, NAN, -0.0);
        long[][] due = {{0, 0, 0, 0}, {0, 0, 0, 1}, {0, 0, 0, 0}, {0, 0, 0, 1}, {0, 0, 0, 1}, {1, 1, 1, 0}};
        for (int op = 0; op < 6; op++) {
            c.ask("compare", op, 0, 1, 2);
            c.cells("20 op " + op, 2, Due.MARK, due[op]);
        }
    }

    /** "NUMBERS to MARKS: true unless it is 0 (or -0; a NaN is true)". */
    private static void turnedToMarks() {
        Calls c = new Calls();
        c.giveDoubles(0, 0.0, -0.0, NAN, Double.MIN_VALUE, -Double.MIN_VALUE, INF, -INF, 0.5);
        c.yes("23", "turn", Due.MARK, 0, 1);
        c.cells("23 DOUBLES to MARKS", 1, Due.MARK, 0, 0, 1, 1, 1, 1, 1, 1);
        c.giveFloats(0, 0f, -0f, Float.NaN, Float.MIN_VALUE, -Float.MIN_VALUE, Float.POSITIVE_INFINITY, 0.5f);
        c.yes("23", "turn", Due.MARK, 0, 1);
        c.cells("23 FLOATS to MARKS", 1, Due.MARK, 0, 0, 1, 1, 1, 1, 1);
        for (int kind = 0; kind < 5; kind++) {
            c.give(0, kind, 0, 1, -1, 2, 64);
            c.yes("23", "turn", Due.MARK, 0, 1);
            c.cells("23 KIND " + kind + " to MARKS", 1, Due.MARK, 0, 1, 1, 1, 1);
        }
        c.give(0, Due.LONG, Long.MIN_VALUE, 1L << 32, 0);
        c.yes("23", "turn", Due.MARK, 0, 1);
        c.cells("23 LONGS to MARKS", 1, Due.MARK, 1, 1, 0);
        c.give(0, Due.MARK, 0, 1);
        c.yes("23", "turn", Due.MARK, 0, 1);
        c.cells("23 MARKS to MARKS", 1, Due.MARK, 0, 1);
    }

    /** A whole 0 and a MARK that is false have no sign; a real -0 keeps its own, and has none where it becomes whole. */
    private static void turnedZeros() {
        for (int kind = 0; kind < 8; kind++) {
            Calls c = new Calls();
            c.ask("band", 0, kind, 1);
            c.ask("turn", Due.DOUBLE, 0, 1);
            c.cells("23 0 of KIND " + kind, 1, Due.DOUBLE, 0);
            c.ask("turn", Due.FLOAT, 0, 1);
            c.cells("23 0 of KIND " + kind, 1, Due.FLOAT, 0);
            c.giveDoubles(2, -0.0, -0.5);
            c.ask("turn", kind, 2, 3);
            long real = kind == Due.FLOAT ? Due.bits(-0f) : kind == Due.DOUBLE ? Due.bits(-0.0) : 0;
            c.answers("23 -0 to KIND " + kind, real, "get", 3, kind, 0);
            c.giveFloats(2, -0f);
            c.ask("turn", kind, 2, 3);
            c.cells("23 -0f to KIND " + kind, 3, kind, real);
        }
    }

    private static void maths(int op, double x, double due) {
        Calls c = new Calls();
        c.giveDoubles(0, x);
        c.yes("25", "math", op, 0, 1);
        c.doubles("25 op " + op + " of " + x, 1, due);
    }

    private static void maths(int op, float x, float due) {
        Calls c = new Calls();
        c.giveFloats(0, x);
        c.yes("25", "math", op, 0, 1);
        c.floats("25 op " + op + " of the FLOAT " + x, 1, due);
    }

    private static void mathOfZeros() {
        double[] zero = {0, 0, 0, 0, 0, 0, Double.MIN_VALUE, Double.MIN_VALUE, 1, 0, 0};
        double[] minusZero = {0, -0.0, -0.0, -0.0, -0.0, -0.0, Double.MIN_VALUE, Double.MIN_VALUE, -1, 0, -0.0};
        float[] floatZero = {0, 0, 0, 0, 0, 0, Float.MIN_VALUE, Float.MIN_VALUE, 1, 0, 0};
        float[] floatMinusZero = {0, -0f, -0f, -0f, -0f, -0f, Float.MIN_VALUE, Float.MIN_VALUE, -1, 0, -0f};
        for (int op = 0; op < 11; op++) {
            if (op != 9) {
                maths(op, 0.0, zero[op]);
                maths(op, -0.0, minusZero[op]);
                maths(op, 0f, floatZero[op]);
                maths(op, -0f, floatMinusZero[op]);
            }
        }
        // copySign(x - 1, x): a 0 that comes of 1 has its sign, and the next number below 0 is followed by -0.
        maths(8, 1.0, 0.0);
        maths(8, 1f, 0f);
        maths(7, -Double.MIN_VALUE, -0.0);
        maths(7, -Float.MIN_VALUE, -0f);
        maths(1, 0.5, 0.0);
        maths(2, -0.5, -0.0);
        maths(3, -0.5, -0.0);
        maths(3, 0.5, 0.0);
        Calls c = new Calls();
        c.giveDoubles(0, 0.0, -0.0, -0.5, 0.5);
        c.ask("math", 9, 0, 1);
        c.cells("25 exponents", 1, Due.INT, -1023, -1023, -1, -1);
        c.ask("math", 11, 0, 1);
        c.cells("25 nearest", 1, Due.LONG, 0, 0, 0, 1);
        c.giveFloats(0, 0f, -0f, -0.5f, 0.5f);
        c.ask("math", 9, 0, 1);
        c.cells("25 exponents of FLOATS", 1, Due.INT, -127, -127, -1, -1);
        c.ask("math", 11, 0, 1);
        c.cells("25 nearest of FLOATS", 1, Due.INT, 0, 0, 0, 1);
    }

    /** "a 0 itself, NaN NaN"; "NaN 0" of the nearest whole number; a NaN in all others. */
    private static void mathOfNaN() {
        for (int op = 0; op < 11; op++) {
            if (op != 9) {
                maths(op, NAN, NAN);
                maths(op, Float.NaN, Float.NaN);
            }
        }
        maths(5, -1.0, NAN);
        maths(5, -INF, NAN);
        maths(5, -Double.MIN_VALUE, NAN);
        maths(5, -1f, Float.NaN);
        Calls c = new Calls();
        c.giveDoubles(0, NAN, INF, -INF);
        c.ask("math", 9, 0, 1);
        c.cells("25 exponents", 1, Due.INT, 1024, 1024, 1024);
        c.ask("math", 11, 0, 1);
        c.cells("25 nearest", 1, Due.LONG, 0, Long.MAX_VALUE, Long.MIN_VALUE);
        c.giveFloats(0, Float.NaN, Float.POSITIVE_INFINITY, Float.NEGATIVE_INFINITY);
        c.ask("math", 9, 0, 1);
        c.cells("25 exponents of FLOATS", 1, Due.INT, 128, 128, 128);
        c.ask("math", 11, 0, 1);
        c.cells("25 nearest of FLOATS", 1, Due.INT, 0, Integer.MAX_VALUE, Integer.MIN_VALUE);
    }

    private static void fused() {
        for (double a : SOME) {
            for (double b : SOME) {
                Calls c = new Calls();
                c.giveDoubles(0, a, a, a, a);
                c.giveDoubles(1, b, b, b, b);
                c.giveDoubles(2, 0.0, -0.0, NAN, -INF);
                c.yes("26", "fuse", 0, 1, 2, 3);
                c.doubles("26 " + a + " * " + b, 3, a * b + 0.0, a * b + -0.0, NAN, a * b - INF);
                c.giveFloats(0, (float) a, (float) a);
                c.giveFloats(1, (float) b, (float) b);
                c.giveFloats(2, 0f, -0f);
                c.yes("26", "fuse", 0, 1, 2, 3);
                c.floats("26 FLOATS " + a + " * " + b, 3, (float) a * (float) b + 0f, (float) a * (float) b + -0f);
            }
        }
    }

    private static void applied() {
        for (double gain : SOME) {
            for (double offset : SOME) {
                Calls c = new Calls();
                c.giveDoubles(0, SOME);
                c.ask("scale", 1, Due.bits(gain), Due.bits(offset));
                c.yes("27", "apply", 0, 1, 2);
                double[] due = new double[SOME.length];
                for (int k = 0; k < due.length; k++) {
                    due[k] = SOME[k] * gain + offset;
                }
                c.doubles("27 by " + gain + ", " + offset, 2, due);
            }
        }
    }

    private static void stats(String why, Calls c, double... due) {
        for (int op = 0; op < 6; op++) {
            c.answers("28 " + why, Due.bits(due[op]), "stat", op, 0);
        }
    }

    /** "MIN, MAX from the first on"; the sums begin with 0, so that -0 alone comes to 0. */
    private static void statOfZeros() {
        Calls c = new Calls();
        c.giveDoubles(0, 0.0, -0.0);
        stats("0, -0", c, -0.0, 0, 0, 0, 0, 0);
        c.giveDoubles(0, -0.0, 0.0);
        stats("-0, 0", c, -0.0, 0, 0, 0, 0, 0);
        c.giveDoubles(0, -0.0, -0.0);
        stats("-0, -0", c, -0.0, -0.0, 0, 0, 0, 0);
        c.giveDoubles(0, 1, -1);
        stats("1, -1", c, -1, 1, 0, 0, 0, 0);
        c.giveFloats(0, -0f, -0f);
        stats("FLOATS -0, -0", c, -0.0, -0.0, 0, 0, 0, 0);
        c.giveFloats(0, -0f, 0f, -1f);
        stats("FLOATS -0, 0, -1", c, -1, 0.0, -1, -1 / 3.0, 0, -1);
    }

    /** "4 how many are NaN, 5 the sum of those that are not NaN". */
    private static void statOfNaN() {
        Calls c = new Calls();
        c.giveDoubles(0, NAN);
        stats("NaN", c, NAN, NAN, NAN, NAN, 1, 0);
        c.giveDoubles(0, NAN, NAN, NAN);
        stats("NaN alone", c, NAN, NAN, NAN, NAN, 3, 0);
        c.giveDoubles(0, 1, NAN, 2);
        stats("one NaN in the middle", c, NAN, NAN, NAN, NAN, 1, 3);
        c.giveDoubles(0, NAN, 1, 2);
        stats("one NaN first", c, NAN, NAN, NAN, NAN, 1, 3);
        c.giveDoubles(0, 1, 2, NAN);
        stats("one NaN last", c, NAN, NAN, NAN, NAN, 1, 3);
        c.giveDoubles(0, INF, -INF);
        stats("infinite ones", c, -INF, INF, NAN, NAN, 0, NAN);
        c.giveDoubles(0, INF);
        stats("an infinite one", c, INF, INF, INF, INF, 0, INF);
        c.giveFloats(0, Float.NaN, 2f);
        stats("a FLOAT that is NaN", c, NAN, NAN, NAN, NAN, 1, 2);
    }

    private static void samples(Calls c, int reader, double x, double y, double due) {
        c.answers("29 at " + x + ", " + y, Due.bits(due), "sample", reader, 0, 2, Due.bits(x), Due.bits(y));
    }

    private static void sampledAtZeros() {
        double[] zeros = {0.0, -0.0, Double.MIN_VALUE, -Double.MIN_VALUE};
        for (double x : zeros) {
            for (double y : zeros) {
                Calls c = new Calls();
                c.giveDoubles(0, -0.0, 1, 2, 3);
                for (int reader = 0; reader < 4; reader++) {
                    samples(c, reader, x, y, -0.0);
                }
                c.giveDoubles(0, 7, 7, 7, 7);
                samples(c, 4, x, y, 7);
            }
        }
        Calls c = new Calls();
        c.giveDoubles(0, -0.0, -0.0, -0.0, -0.0);
        samples(c, 4, 0.0, 0.0, 0.0);
        samples(c, 4, -0.0, 0.0, 0.0);
        samples(c, 4, 0.0, -0.0, 0.0);
        samples(c, 4, -0.0, -0.0, -0.0);
    }

    /** "Of an x or y that is NaN .. all READERS give NaN"; a cell that is NaN is NaN to all of them. */
    private static void sampledNaN() {
        long[] nans = {NAN_BITS, 0x7ff0000000000001L, -1, 0xfff8000000000000L};
        for (int reader = 0; reader < 5; reader++) {
            Calls c = new Calls();
            c.giveDoubles(0, 1, 2, 3, 4);
            for (long nan : nans) {
                c.answers("29 x", NAN_BITS, "sample", reader, 0, 2, nan, 0);
                c.answers("29 y", NAN_BITS, "sample", reader, 0, 2, 0, nan);
                c.answers("29 both", NAN_BITS, "sample", reader, 0, 2, nan, nan);
            }
            c.giveDoubles(0, NAN, 2, 3, 4);
            samples(c, reader, 0, 0, NAN);
            samples(c, reader, 1, 1, 4);
        }
        Calls c = new Calls();
        c.giveDoubles(0, 1, 2, 3, NAN);
        samples(c, 4, 0, 0, NAN);
        samples(c, 4, 0.5, -1, 1.5);
        samples(c, 4, -1, 0.5, 2);
    }
}
