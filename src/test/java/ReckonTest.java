/** Promises 19 to 22 and 35: reckon, compare, mark, choose, and how many cells they went through. */
public final class ReckonTest {
    private static final double INF = Double.POSITIVE_INFINITY;
    private static final double NAN = Double.NaN;

    public static void main(String[] args) {
        wholes();
        widerKinds();
        doubles();
        floats();
        reckonFaults();
        compare();
        compareFaults();
        mark();
        choose();
        gone();
        Due.end("ReckonTest");
    }

    private static void wholes() {
        LayerHouse h = new LayerHouse();
        Due.wholes(h, 0, Due.INT, Integer.MAX_VALUE, Integer.MIN_VALUE, -7, 7);
        Due.wholes(h, 1, Due.INT, 1, -1, 2, -2);
        long[][] due = {{Integer.MIN_VALUE, Integer.MAX_VALUE, -5, 5}, {2147483646, -2147483647, -9, 9},
            {Integer.MAX_VALUE, Integer.MIN_VALUE, -14, -14}, {Integer.MAX_VALUE, Integer.MIN_VALUE, -3, -3}, {0, 0, -1, 1},
            {1, Integer.MIN_VALUE, -7, -2}, {Integer.MAX_VALUE, -1, 2, 7}};
        for (int op = 0; op < 7; op++) {
            Due.yes("19 INT op " + op, h, h.reckon(op, 0, 1, 2));
            Due.holds("19 INT op " + op, h, 2, Due.INT, due[op]);
        }
        Due.wholes(h, 0, Due.LONG, Long.MAX_VALUE, Long.MIN_VALUE, -7, 1L << 40);
        Due.wholes(h, 1, Due.LONG, 1, -1, 2, 1L << 30);
        long[][] longs = {{Long.MIN_VALUE, Long.MAX_VALUE, -5, (1L << 40) + (1L << 30)},
            {Long.MAX_VALUE - 1, Long.MIN_VALUE + 1, -9, (1L << 40) - (1L << 30)}, {Long.MAX_VALUE, Long.MIN_VALUE, -14, 0},
            {Long.MAX_VALUE, Long.MIN_VALUE, -3, 1 << 10}, {0, 0, -1, 0}, {1, Long.MIN_VALUE, -7, 1L << 30},
            {Long.MAX_VALUE, -1, 2, 1L << 40}};
        for (int op = 0; op < 7; op++) {
            h.reckon(op, 0, 1, 2);
            Due.holds("19 LONG op " + op, h, 2, Due.LONG, longs[op]);
        }
        Due.wholes(h, 0, Due.BYTE, 127, -128);
        h.reckon(0, 0, 0, 0);
        Due.holds("19 BYTES are reckoned as INTS, r may be p", h, 0, Due.INT, 254, -256);
        Due.wholes(h, 0, Due.SIGN, 65535);
        h.reckon(2, 0, 0, 1);
        Due.holds("19 SIGNS", h, 1, Due.INT, -131071);
        h.band(0, Due.SHORT, 0);
        Due.yes("19 no cells", h, h.reckon(3, 0, 1, 2));
        Due.holds("19 no cells", h, 2, Due.INT);
    }

    private static void widerKinds() {
        LayerHouse h = new LayerHouse();
        for (int a = 0; a < 7; a++) {
            for (int b = 0; b < 7; b++) {
                h.band(0, a, 1);
                h.band(1, b, 1);
                h.reckon(0, 0, 1, 2);
                Due.is("19 wider " + a + b, h.holds(2), Math.max(3, Math.max(a, b)));
            }
        }
        Due.wholes(h, 0, Due.LONG, 16777217, 9007199254740993L, Long.MAX_VALUE);
        Due.floats(h, 1, 0f, 0f, 0f);
        h.reckon(0, 0, 1, 2);
        Due.holdsFloats("19 LONGS to FLOATS", h, 2, 16777216f, 9007199254740992f, 9223372036854775807f);
        Due.doubles(h, 1, 0, 0, 0);
        h.reckon(0, 0, 1, 2);
        Due.holdsDoubles("19 LONGS to DOUBLES", h, 2, 16777217, 9007199254740992.0, 9223372036854775807.0);
        Due.wholes(h, 0, Due.INT, 16777217, Integer.MAX_VALUE);
        Due.floats(h, 1, 1f, 1f);
        h.reckon(2, 0, 1, 2);
        Due.holdsFloats("19 INTS to FLOATS", h, 2, 16777216f, 2147483648f);
    }

    private static void doubles() {
        LayerHouse h = new LayerHouse();
        double[] a = {0.1, 1e308, INF, 0.0, -0.0, 5.5, -5.5, NAN, 1, Double.MIN_VALUE, 1e300, 1};
        double[] b = {0.2, 1e308, -INF, -0.0, 0.0, 2, 2, 1, 0, 2, INF, NAN};
        Due.doubles(h, 0, a);
        Due.doubles(h, 1, b);
        double[] due = new double[a.length];
        for (int op = 0; op < 7; op++) {
            for (int k = 0; k < a.length; k++) {
                due[k] = op == 0 ? a[k] + b[k] : op == 1 ? a[k] - b[k] : op == 2 ? a[k] * b[k] : op == 3 ? a[k] / b[k]
                    : op == 4 ? a[k] % b[k] : op == 5 ? Math.min(a[k], b[k]) : Math.max(a[k], b[k]);
            }
            Due.yes("19 DOUBLE op " + op, h, h.reckon(op, 0, 1, 2));
            Due.holdsDoubles("19 DOUBLE op " + op, h, 2, due);
        }
        Due.doubles(h, 0, 0.0, 0.0, -0.0, 1e300, -1e300, 5);
        Due.doubles(h, 1, -0.0, 0.0, -0.0, 0.1, 7, INF);
        h.reckon(5, 0, 1, 2);
        Due.is("19 -0 is less for MIN", h.get(2, Due.DOUBLE, 0), Long.MIN_VALUE);
        h.reckon(6, 0, 1, 2);
        Due.is("19 -0 is less for MAX", h.get(2, Due.DOUBLE, 0), 0);
        h.reckon(4, 0, 1, 2);
        Due.holdsDoubles("19 the exact rest", h, 2, NAN, NAN, NAN, 1e300 % 0.1, -1e300 % 7, 5);
        h.reckon(1, 0, 0, 2);
        Due.holdsDoubles("19 x - x is 0", h, 2, 0, 0, 0, 0, 0, 0);
    }

    private static void floats() {
        LayerHouse h = new LayerHouse();
        float[] a = {0.1f, 3e38f, 1e-45f, 16777216f, -5.5f, 1f, Float.NaN, 1e-38f, 7f, -0f};
        float[] b = {0.2f, 3e38f, 0.5f, 1f, 2f, 3f, 1f, 3f, Float.POSITIVE_INFINITY, 0f};
        Due.floats(h, 0, a);
        Due.floats(h, 1, b);
        float[] due = new float[a.length];
        for (int op = 0; op < 7; op++) {
            for (int k = 0; k < a.length; k++) {
                due[k] = op == 0 ? a[k] + b[k] : op == 1 ? a[k] - b[k] : op == 2 ? a[k] * b[k] : op == 3 ? a[k] / b[k]
                    : op == 4 ? a[k] % b[k] : op == 5 ? Math.min(a[k], b[k]) : Math.max(a[k], b[k]);
            }
            h.reckon(op, 0, 1, 2);
            Due.holdsFloats("19 FLOAT op " + op, h, 2, due);
        }
    }

    private static void reckonFaults() {
        LayerHouse h = new LayerHouse();
        h.band(0, Due.INT, 3);
        h.band(1, Due.MARK, 3);
        Due.wholes(h, 2, Due.INT, 1, 0);
        h.row(3, 0, 3);
        Due.no("19 op", h, h.reckon(7, 9, 9, 9), Due.REFUSED);
        Due.no("19 op below", h, h.reckon(-1, 0, 0, 9), Due.REFUSED);
        Due.no("19 p", h, h.reckon(0, 12, 0, 9), Due.REFUSED);
        Due.no("19 q", h, h.reckon(0, 0, -1, 9), Due.REFUSED);
        Due.no("19 r", h, h.reckon(0, 8, 8, 12), Due.REFUSED);
        Due.no("19 p missing", h, h.reckon(0, 8, 1, 9), Due.MISSING);
        Due.no("19 q missing", h, h.reckon(0, 0, 8, 9), Due.MISSING);
        Due.no("19 p wrong ahead of q missing", h, h.reckon(0, 1, 8, 9), Due.WRONG);
        Due.no("19 p missing ahead of q wrong", h, h.reckon(0, 8, 3, 9), Due.MISSING);
        Due.no("19 q wrong", h, h.reckon(0, 0, 3, 9), Due.WRONG);
        Due.no("19 zero ahead of outside", h, h.reckon(3, 0, 2, 9), Due.ZERO);
        Due.no("19 zero of rests", h, h.reckon(4, 0, 2, 9), Due.ZERO);
        Due.no("19 outside", h, h.reckon(0, 0, 2, 9), Due.OUTSIDE);
        Due.is("19 nothing is put", h.holds(9), -1);
        Due.yes("19 more cells are not looked at", h, h.reckon(0, 2, 0, 9));
        Due.holds("19 more cells are not looked at", h, 9, Due.INT, 1, 0);
        h.band(4, Due.LONG, 1);
        Due.no("19 zero of LONGS", h, h.reckon(3, 2, 4, 9), Due.ZERO);
        h.band(4, Due.FLOAT, 3);
        Due.yes("19 0 of FLOATS is no fault", h, h.reckon(3, 0, 4, 9));
        Due.holdsFloats("19 0 of FLOATS is no fault", h, 9, Float.NaN, Float.NaN, Float.NaN);
    }

    private static void compare() {
        LayerHouse h = new LayerHouse();
        Due.doubles(h, 0, 1, 2, 3, 0.0, NAN, NAN, 1, -INF);
        Due.doubles(h, 1, 2, 2, 2, -0.0, NAN, 1, NAN, INF);
        long[][] due = {{1, 0, 0, 0, 0, 0, 0, 1}, {1, 1, 0, 1, 0, 0, 0, 1}, {0, 0, 1, 0, 0, 0, 0, 0},
            {0, 1, 1, 1, 0, 0, 0, 0}, {0, 1, 0, 1, 0, 0, 0, 0}, {1, 0, 1, 0, 1, 1, 1, 1}};
        for (int op = 0; op < 6; op++) {
            Due.yes("20 op " + op, h, h.compare(op, 0, 1, 2));
            Due.holds("20 op " + op, h, 2, Due.MARK, due[op]);
        }
        Due.wholes(h, 0, Due.LONG, 16777217, Long.MIN_VALUE, 5);
        Due.floats(h, 1, 16777216f, -9.223372e18f, Float.NaN);
        h.compare(4, 0, 1, 2);
        Due.holds("20 in the wider kind", h, 2, Due.MARK, 1, 1, 0);
        Due.wholes(h, 0, Due.BYTE, -1, 3, 5);
        Due.wholes(h, 1, Due.SIGN, 65535, 3, 4);
        h.compare(0, 0, 1, 2);
        Due.holds("20 wholes", h, 2, Due.MARK, 1, 0, 0);
        Due.wholes(h, 0, Due.LONG, Long.MIN_VALUE, Long.MAX_VALUE, 1);
        Due.wholes(h, 1, Due.LONG, Long.MAX_VALUE, Long.MIN_VALUE, 1);
        h.compare(0, 0, 1, 2);
        Due.holds("20 utmost wholes", h, 2, Due.MARK, 1, 0, 0);
    }

    private static void compareFaults() {
        LayerHouse h = new LayerHouse();
        h.band(0, Due.INT, 3);
        h.band(1, Due.MARK, 3);
        h.band(2, Due.INT, 2);
        Due.no("20 op", h, h.compare(6, 0, 0, 9), Due.REFUSED);
        Due.no("20 op below", h, h.compare(-1, 0, 0, 9), Due.REFUSED);
        Due.no("20 p", h, h.compare(0, 12, 0, 9), Due.REFUSED);
        Due.no("20 q", h, h.compare(0, 0, 12, 9), Due.REFUSED);
        Due.no("20 r", h, h.compare(0, 8, 8, -1), Due.REFUSED);
        Due.no("20 p missing", h, h.compare(0, 8, 1, 9), Due.MISSING);
        Due.no("20 p wrong", h, h.compare(0, 1, 8, 9), Due.WRONG);
        Due.no("20 q missing", h, h.compare(0, 0, 8, 9), Due.MISSING);
        Due.no("20 q wrong", h, h.compare(0, 0, 1, 9), Due.WRONG);
        Due.no("20 outside", h, h.compare(0, 0, 2, 9), Due.OUTSIDE);
        Due.is("20 nothing is put", h.holds(9), -1);
        Due.yes("20 more cells", h, h.compare(4, 2, 0, 9));
        Due.holds("20 more cells", h, 9, Due.MARK, 1, 1);
    }

    private static void mark() {
        LayerHouse h = new LayerHouse();
        Due.wholes(h, 0, Due.MARK, 0, 0, 1, 1);
        Due.wholes(h, 1, Due.MARK, 0, 1, 0, 1);
        long[][] due = {{0, 0, 0, 1}, {0, 1, 1, 1}, {0, 1, 1, 0}, {1, 1, 0, 0}};
        for (int op = 0; op < 4; op++) {
            Due.yes("21 op " + op, h, h.mark(op, 0, 1, 2));
            Due.holds("21 op " + op, h, 2, Due.MARK, due[op]);
        }
        Due.yes("21 not does not look at q", h, h.mark(3, 0, 8, 2));
        Due.holds("21 not does not look at q", h, 2, Due.MARK, due[3]);
        Due.no("21 q is refused all the same", h, h.mark(3, 0, 12, 2), Due.REFUSED);
        Due.no("21 op", h, h.mark(4, 0, 1, 2), Due.REFUSED);
        Due.no("21 op below", h, h.mark(-1, 0, 1, 2), Due.REFUSED);
        Due.no("21 p", h, h.mark(0, -1, 1, 2), Due.REFUSED);
        Due.no("21 r", h, h.mark(0, 8, 8, 12), Due.REFUSED);
        h.band(3, Due.INT, 4);
        Due.no("21 p wrong", h, h.mark(0, 3, 8, 9), Due.WRONG);
        Due.no("21 p missing", h, h.mark(0, 8, 3, 9), Due.MISSING);
        Due.no("21 p missing of not", h, h.mark(3, 8, 3, 9), Due.MISSING);
        Due.no("21 q wrong", h, h.mark(0, 0, 3, 9), Due.WRONG);
        Due.no("21 q missing", h, h.mark(0, 0, 8, 9), Due.MISSING);
        h.band(4, Due.MARK, 2);
        Due.no("21 outside", h, h.mark(1, 0, 4, 9), Due.OUTSIDE);
        Due.is("21 nothing is put", h.holds(9), -1);
        Due.yes("21 more cells", h, h.mark(1, 4, 0, 9));
        Due.holds("21 more cells", h, 9, Due.MARK, 0, 0);
    }

    private static void choose() {
        LayerHouse h = new LayerHouse();
        Due.wholes(h, 0, Due.MARK, 1, 0, 1);
        Due.wholes(h, 1, Due.LONG, 16777217, 2, 3);
        Due.floats(h, 2, 4.5f, 5.5f, 6.5f, 7.5f);
        Due.yes("22 choose", h, h.choose(0, 1, 2, 3));
        Due.holdsFloats("22 in the wider kind", h, 3, 16777216f, 5.5f, 3f);
        Due.wholes(h, 4, Due.BYTE, 1, 2, -3);
        h.choose(0, 4, 4, 3);
        Due.holds("22 BYTES as INTS", h, 3, Due.INT, 1, 2, -3);
        Due.wholes(h, 5, Due.INT, 1, 2);
        Due.no("22 p outside, though q is chosen", h, h.choose(0, 5, 2, 9), Due.OUTSIDE);
        h.set(0, Due.MARK, 2, 0);
        Due.no("22 p outside, though not chosen", h, h.choose(0, 5, 2, 9), Due.OUTSIDE);
        h.set(0, Due.MARK, 2, 1);
        Due.no("22 q outside, though not chosen", h, h.choose(0, 2, 5, 9), Due.OUTSIDE);
        h.band(6, Due.MARK, 1);
        Due.yes("22 as many as m has", h, h.choose(6, 1, 5, 3));
        Due.holds("22 as many as m has", h, 3, Due.LONG, 1);
        Due.no("22 m", h, h.choose(12, 1, 2, 9), Due.REFUSED);
        Due.no("22 p", h, h.choose(0, -1, 2, 9), Due.REFUSED);
        Due.no("22 q", h, h.choose(0, 1, 12, 9), Due.REFUSED);
        Due.no("22 r", h, h.choose(8, 8, 8, 12), Due.REFUSED);
        Due.no("22 m wrong", h, h.choose(1, 8, 8, 9), Due.WRONG);
        Due.no("22 m missing", h, h.choose(8, 0, 0, 9), Due.MISSING);
        Due.no("22 p missing", h, h.choose(0, 8, 0, 9), Due.MISSING);
        Due.no("22 p wrong", h, h.choose(0, 0, 8, 9), Due.WRONG);
        Due.no("22 q missing", h, h.choose(0, 1, 8, 9), Due.MISSING);
        Due.no("22 q wrong", h, h.choose(0, 1, 0, 9), Due.WRONG);
        Due.is("22 nothing is put", h.holds(9), -1);
    }

    private static void went(String what, LayerHouse h, boolean answer, int cells) {
        Due.is("35 " + what, h.gone(), cells);
        h.told();
        h.holds(0);
        h.total();
        h.done(0);
        Due.is("35 questions leave it, " + what, h.gone(), cells);
    }

    private static void gone() {
        LayerHouse h = new LayerHouse();
        Due.wholes(h, 0, Due.INT, 4, 5, 6);
        Due.wholes(h, 1, Due.INT, 1, 0);
        Due.wholes(h, 2, Due.MARK, 1, 0, 1, 1);
        h.scale(3, 0, 0);
        went("behind another act", h, h.clear(9), 0);
        went("reckon", h, h.reckon(0, 0, 0, 9), 3);
        went("reckon with a zero", h, h.reckon(3, 0, 1, 9), 2);
        went("reckon outside", h, h.reckon(0, 0, 1, 9), 3);
        went("reckon of fewer", h, h.reckon(0, 1, 0, 9), 2);
        went("reckon missing", h, h.reckon(0, 0, 8, 9), 0);
        went("compare", h, h.compare(0, 0, 0, 9), 3);
        went("compare outside", h, h.compare(0, 0, 1, 9), 3);
        went("compare refused", h, h.compare(9, 0, 1, 9), 0);
        went("mark", h, h.mark(0, 2, 2, 9), 4);
        went("not", h, h.mark(3, 2, 8, 9), 4);
        went("choose outside", h, h.choose(2, 0, 1, 9), 3);
        went("turn", h, h.turn(6, 2, 9), 4);
        went("bits", h, h.bits(0, 9), 3);
        went("bits wrong", h, h.bits(2, 9), 0);
        went("math", h, h.math(5, 0, 9), 3);
        went("fuse", h, h.fuse(1, 0, 0, 9), 2);
        went("fuse outside", h, h.fuse(0, 0, 1, 9), 3);
        went("apply", h, h.apply(0, 3, 9), 3);
        went("stat", h, h.stat(0, 0) == 0, 3);
        went("stat missing", h, h.stat(0, 8) == 0, 0);
        for (int act = 0; act < 8; act++) {
            h.stat(2, 0);
            Due.is("35 stat", h.gone(), 3);
            if (act == 0) h.get(0, Due.INT, 0);
            if (act == 1) h.set(0, Due.INT, 0, 4);
            if (act == 2) h.sample(0, 0, 1, 0, 0);
            if (act == 3) h.stepOf(0, 1);
            if (act == 4) h.step(1, 0, 0, 0);
            if (act == 5) h.job();
            if (act == 6) h.move(0, 0, 0, 0, 1);
            if (act == 7) h.reckon(7, 0, 0, 0);
            Due.is("35 behind act " + act, h.gone(), 0);
        }
        h.band(4, Due.INT, 0);
        went("no cells", h, h.reckon(0, 4, 0, 9), 0);
    }
}
