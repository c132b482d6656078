import java.util.Random;

/** Seeded cells through promises 19 to 26, against the machine's own floats and doubles, bit for bit. */
public final class RealRuns {
    /** So few that no object is asked beyond its 512 calls. */
    private static final int CELLS = 16;
    private static final int ROUNDS = 10000;
    private static final Random RANDOM = new Random(20);

    public static void main(String[] args) {
        for (int round = 0; round < ROUNDS; round++) {
            doubles();
            floats();
            longs();
        }
        Due.end("RealRuns");
    }

    /** Bits with long runs of 0 and 1, and exponents that lie near one another, meet the middle cases far more often. */
    private static long bitsOfDouble() {
        long bits = RANDOM.nextLong();
        if (RANDOM.nextInt(3) == 0) bits &= -1L << RANDOM.nextInt(53);
        if (RANDOM.nextInt(3) == 0) bits |= (1L << RANDOM.nextInt(53)) - 1;
        int mode = RANDOM.nextInt(6);
        long field = mode == 0 ? RANDOM.nextInt(3) : mode == 1 ? 2045 + RANDOM.nextInt(3) : mode == 2 ? RANDOM.nextInt(2048) : 1010 + RANDOM.nextInt(70);
        return (bits & 0x800fffffffffffffL) | (field << 52);
    }

    private static int bitsOfFloat() {
        int bits = RANDOM.nextInt();
        if (RANDOM.nextInt(3) == 0) bits &= -1 << RANDOM.nextInt(24);
        if (RANDOM.nextInt(3) == 0) bits |= (1 << RANDOM.nextInt(24)) - 1;
        int mode = RANDOM.nextInt(6);
        int field = mode == 0 ? RANDOM.nextInt(3) : mode == 1 ? 253 + RANDOM.nextInt(3) : mode == 2 ? RANDOM.nextInt(256) : 115 + RANDOM.nextInt(40);
        return (bits & 0x807fffff) | (field << 23);
    }

    private static void doubles() {
        LayerHouse h = new LayerHouse();
        double[] a = new double[CELLS];
        double[] b = new double[CELLS];
        double[] c = new double[CELLS];
        for (int k = 0; k < CELLS; k++) {
            a[k] = Double.longBitsToDouble(bitsOfDouble());
            b[k] = Double.longBitsToDouble(bitsOfDouble());
            c[k] = Double.longBitsToDouble(bitsOfDouble());
        }
        Due.doubles(h, 0, a);
        Due.doubles(h, 1, b);
        Due.doubles(h, 2, c);
        double[] due = new double[CELLS];
        for (int op = 0; op < 7; op++) {
            for (int k = 0; k < CELLS; k++) due[k] = Oracle.real(op, a[k], b[k]);
            h.reckon(op, 0, 1, 3);
            Due.holdsDoubles("DOUBLE op " + op, h, 3, due);
        }
        for (int op = 0; op < 11; op++) {
            if (op == 9) continue;
            for (int k = 0; k < CELLS; k++) due[k] = Oracle.mathOf(op, a[k]);
            h.math(op, 0, 3);
            Due.holdsDoubles("DOUBLE math " + op, h, 3, due);
        }
        for (int k = 0; k < CELLS; k++) due[k] = a[k] * b[k] + c[k];
        h.fuse(0, 1, 2, 3);
        Due.holdsDoubles("DOUBLE fuse", h, 3, due);
        long[] whole = new long[CELLS];
        h.math(11, 0, 3);
        for (int k = 0; k < CELLS; k++) whole[k] = Math.round(a[k]);
        Due.holds("DOUBLE round", h, 3, Due.LONG, whole);
        h.turn(Due.LONG, 0, 3);
        for (int k = 0; k < CELLS; k++) whole[k] = (long) a[k];
        Due.holds("DOUBLE to LONG", h, 3, Due.LONG, whole);
        h.turn(Due.SHORT, 0, 3);
        for (int k = 0; k < CELLS; k++) whole[k] = (short) a[k];
        Due.holds("DOUBLE to SHORT", h, 3, Due.SHORT, whole);
        h.turn(Due.FLOAT, 0, 3);
        for (int k = 0; k < CELLS; k++) whole[k] = Due.bits((float) a[k]);
        Due.holds("DOUBLE to FLOAT", h, 3, Due.FLOAT, whole);
    }

    private static void floats() {
        LayerHouse h = new LayerHouse();
        float[] a = new float[CELLS];
        float[] b = new float[CELLS];
        float[] c = new float[CELLS];
        for (int k = 0; k < CELLS; k++) {
            a[k] = Float.intBitsToFloat(bitsOfFloat());
            b[k] = Float.intBitsToFloat(bitsOfFloat());
            c[k] = Float.intBitsToFloat(bitsOfFloat());
        }
        Due.floats(h, 0, a);
        Due.floats(h, 1, b);
        Due.floats(h, 2, c);
        float[] due = new float[CELLS];
        for (int op = 0; op < 7; op++) {
            for (int k = 0; k < CELLS; k++) due[k] = Oracle.real(op, a[k], b[k]);
            h.reckon(op, 0, 1, 3);
            Due.holdsFloats("FLOAT op " + op, h, 3, due);
        }
        for (int op = 0; op < 11; op++) {
            if (op == 9) continue;
            for (int k = 0; k < CELLS; k++) due[k] = Oracle.mathOf(op, a[k]);
            h.math(op, 0, 3);
            Due.holdsFloats("FLOAT math " + op, h, 3, due);
        }
        for (int k = 0; k < CELLS; k++) due[k] = a[k] * b[k] + c[k];
        h.fuse(0, 1, 2, 3);
        Due.holdsFloats("FLOAT fuse", h, 3, due);
        long[] whole = new long[CELLS];
        h.math(11, 0, 3);
        for (int k = 0; k < CELLS; k++) whole[k] = Math.round(a[k]);
        Due.holds("FLOAT round", h, 3, Due.INT, whole);
        h.turn(Due.DOUBLE, 0, 3);
        for (int k = 0; k < CELLS; k++) whole[k] = Due.bits((double) a[k]);
        Due.holds("FLOAT to DOUBLE", h, 3, Due.DOUBLE, whole);
    }

    private static void longs() {
        LayerHouse h = new LayerHouse();
        long[] a = new long[CELLS];
        float[] f = new float[CELLS];
        double[] d = new double[CELLS];
        for (int k = 0; k < CELLS; k++) {
            a[k] = RANDOM.nextLong() >> RANDOM.nextInt(64);
            if (RANDOM.nextInt(2) == 0) a[k] &= -1L << RANDOM.nextInt(63);
            if (RANDOM.nextInt(4) == 0) a[k] += RANDOM.nextInt(3) - 1;
            f[k] = a[k];
            d[k] = a[k];
        }
        Due.wholes(h, 0, Due.LONG, a);
        h.turn(Due.FLOAT, 0, 1);
        Due.holdsFloats("LONG to FLOAT", h, 1, f);
        h.turn(Due.DOUBLE, 0, 1);
        Due.holdsDoubles("LONG to DOUBLE", h, 1, d);
    }
}
