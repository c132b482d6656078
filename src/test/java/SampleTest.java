/** Promises 29 and 30: sample, stepOf. */
public final class SampleTest {
    private static final int NEAR = 0;
    private static final int HELD = 1;
    private static final int ROUND = 2;
    private static final int MIRROR = 3;
    private static final int LINEAR = 4;
    private static final double NAN = Double.NaN;

    public static void main(String[] args) {
        near();
        held();
        round();
        mirror();
        linear();
        linearBeside();
        linearAtMinusZero();
        linearOfZeros();
        far();
        noWholeLine();
        kinds();
        faults();
        stepOf();
        Due.end("SampleTest");
    }

    /** Two lines of three cells, 10 11 12 and 20 21 22, and one left over. */
    private static LayerHouse house() {
        LayerHouse h = new LayerHouse();
        Due.wholes(h, 0, Due.INT, 10, 11, 12, 20, 21, 22, 99);
        return h;
    }

    private static void at(LayerHouse h, int reader, double x, double y, double due) {
        Due.yes("29 reader " + reader + " at " + x + ", " + y, h, h.sample(reader, 0, 3, Due.bits(x), Due.bits(y)), Due.bits(due));
    }

    private static void near() {
        LayerHouse h = house();
        at(h, NEAR, 0, 0, 10);
        at(h, NEAR, 2, 1, 22);
        at(h, NEAR, 0.49, 0.5, 20);
        at(h, NEAR, 0.5, 0.49, 11);
        at(h, NEAR, -0.5, -0.5, 10);
        at(h, NEAR, -0.51, 0, NAN);
        at(h, NEAR, 0, -0.51, NAN);
        at(h, NEAR, 2.49, 1.49, 22);
        at(h, NEAR, 2.5, 0, NAN);
        at(h, NEAR, 0, 1.5, NAN);
        at(h, NEAR, 0.49999999999999994, 0, 11);
        at(h, NEAR, -0.0, -0.0, 10);
        at(h, NEAR, 999999999, 0, NAN);
    }

    private static void held() {
        LayerHouse h = house();
        at(h, HELD, 1, 1, 21);
        at(h, HELD, -5, -5, 10);
        at(h, HELD, 5, -5, 12);
        at(h, HELD, -5, 5, 20);
        at(h, HELD, 5, 5, 22);
        at(h, HELD, 999999999.25, -999999999.25, 12);
        at(h, HELD, 1.4, 70, 21);
    }

    private static void round() {
        LayerHouse h = house();
        at(h, ROUND, 3, 2, 10);
        at(h, ROUND, -1, -1, 22);
        at(h, ROUND, -3.5, 0, 10);
        at(h, ROUND, -3.6, 0, 12);
        at(h, ROUND, 4, 5, 21);
        at(h, ROUND, 999999999, 0, 10);
        at(h, ROUND, -999999998, 1, 21);
    }

    private static void mirror() {
        LayerHouse h = house();
        at(h, MIRROR, -1, -1, 21);
        at(h, MIRROR, -2, 0, 12);
        at(h, MIRROR, -3, 0, 10);
        at(h, MIRROR, 3, 2, 10);
        at(h, MIRROR, -0.5, 0, 11);
        at(h, MIRROR, -5.4, -3, 22);
    }

    private static void linear() {
        LayerHouse h = house();
        at(h, LINEAR, 0, 0, 10);
        at(h, LINEAR, 0.5, 0, 10.5);
        at(h, LINEAR, 0, 0.5, 15);
        at(h, LINEAR, 1.25, 0.75, 11.25 + 0.75 * 10);
        at(h, LINEAR, 2, 1, 22);
        double p = 10 + 0.1 * 1;
        double q = 20 + 0.1 * 1;
        at(h, LINEAR, 0.1, 0.7, p + 0.7 * (q - p));
        Due.doubles(h, 0, 1, Double.POSITIVE_INFINITY, 1, 1, 1, 1);
        at(h, LINEAR, 0, 0, NAN);
        at(h, LINEAR, 0.5, 0, NAN);
        Due.doubles(h, 0, 0.1, 0.7, 0.3, 1e16, -3, 5);
        double a = 0.1 + 0.3 * (0.7 - 0.1);
        double b = 1e16 + 0.3 * (-3 - 1e16);
        at(h, LINEAR, 0.3, 0.6, a + 0.6 * (b - a));
    }

    private static void linearBeside() {
        LayerHouse h = house();
        at(h, LINEAR, -0.5, 0, 10);
        at(h, LINEAR, -1, -1, 10);
        at(h, LINEAR, -1.001, 0, NAN);
        at(h, LINEAR, 0, -1.001, NAN);
        at(h, LINEAR, 2.5, 0.5, 17);
        at(h, LINEAR, 2.999, 1.999, 22);
        at(h, LINEAR, 3, 0, NAN);
        at(h, LINEAR, 0, 2, NAN);
        at(h, LINEAR, 0, 1.5, 20);
        at(h, LINEAR, -1e-300, 0, 10);
        at(h, LINEAR, -0.0, 0, 10);
    }

    /** i is a whole number, of -0 it is 0: f, g are -0 - 0, which is -0. */
    private static void linearAtMinusZero() {
        LayerHouse h = new LayerHouse();
        Due.doubles(h, 0, -0.0);
        atWidth(h, 1, -0.0, -0.0, -0.0);
        atWidth(h, 1, 0.0, -0.0, 0.0);
        atWidth(h, 1, -0.0, 0.0, 0.0);
        atWidth(h, 1, 0.0, 0.0, 0.0);
        Due.doubles(h, 0, -0.0, -1);
        atWidth(h, 1, -0.0, 0.0, -0.0);
        atWidth(h, 1, 0.0, 0.0, 0.0);
        Due.doubles(h, 0, -0.0, -1, -0.0, -1);
        atWidth(h, 2, 0.0, -0.0, -0.0);
        atWidth(h, 2, 0.0, 0.0, 0.0);
        Due.doubles(h, 0, -0.0, 1, -0.0, 1);
        atWidth(h, 2, -0.0, -0.0, -0.0);
        atWidth(h, 2, 0.0, -0.0, 0.0);
        h.band(0, Due.INT, 1);
        atWidth(h, 1, -0.0, -0.0, 0.0);
        h.band(0, Due.FLOAT, 1);
        h.set(0, Due.FLOAT, 0, Due.bits(-0f));
        atWidth(h, 1, -0.0, -0.0, -0.0);
    }

    private static void atWidth(LayerHouse h, int w, double x, double y, double due) {
        Due.yes("29 w " + w + " at " + x + ", " + y, h, h.sample(LINEAR, 0, w, Due.bits(x), Due.bits(y)), Due.bits(due));
    }

    /** All that zeros of both signs, and small numbers beside them, can come to at and about the whole coordinates. */
    private static void linearOfZeros() {
        double[] values = {0.0, -0.0, 1, -1, Double.MIN_VALUE, -Double.MIN_VALUE};
        double[] coordinates = {0.0, -0.0, Double.MIN_VALUE, -Double.MIN_VALUE, 1, -1, 0.5};
        for (double a : values) {
            for (double b : values) {
                for (double c : values) {
                    for (double d : values) {
                        LayerHouse h = new LayerHouse();
                        Due.doubles(h, 0, a, b, c, d);
                        for (double x : coordinates) {
                            for (double y : coordinates) {
                                atWidth(h, 2, x, y, linearOfFour(new double[] {a, b, c, d}, x, y));
                            }
                        }
                    }
                }
            }
        }
    }

    private static double linearOfFour(double[] cells, double x, double y) {
        int i = (int) Math.floor(x);
        int j = (int) Math.floor(y);
        double f = x - i;
        double g = y - j;
        double a = cells[2 * held(j) + held(i)];
        double b = cells[2 * held(j) + held(i + 1)];
        double c = cells[2 * held(j + 1) + held(i)];
        double d = cells[2 * held(j + 1) + held(i + 1)];
        double p = a + f * (b - a);
        double q = c + f * (d - c);
        return p + g * (q - p);
    }

    private static int held(int i) {
        return Math.max(0, Math.min(1, i));
    }

    private static void far() {
        LayerHouse h = house();
        double[] all = {NAN, 1e9, -1e9, 1e300, Double.POSITIVE_INFINITY, Double.NEGATIVE_INFINITY};
        for (int reader = 0; reader < 5; reader++) {
            for (double x : all) {
                at(h, reader, x, 0, NAN);
                at(h, reader, 0, x, NAN);
            }
        }
        Due.yes("29 any NaN", h, h.sample(HELD, 0, 3, 0xfff0000000000001L, 0), Due.bits(NAN));
        at(h, HELD, Math.nextDown(1e9), 0, 12);
        at(h, HELD, -Math.nextDown(1e9), 0, 10);
    }

    private static void noWholeLine() {
        LayerHouse h = new LayerHouse();
        Due.wholes(h, 0, Due.INT, 5, 6);
        for (int reader = 0; reader < 5; reader++) {
            at(h, reader, 0, 0, NAN);
            at(h, reader, -0.5, -0.5, NAN);
        }
        h.band(0, Due.INT, 0);
        for (int reader = 0; reader < 5; reader++) {
            at(h, reader, 0, 0, NAN);
        }
        h.band(0, Due.INT, 400);
        h.set(0, Due.INT, 399, 7);
        Due.yes("29 w 400", h, h.sample(NEAR, 0, 400, Due.bits(399.0), 0), Due.bits(7.0));
        Due.yes("29 w 1", h, h.sample(NEAR, 0, 1, 0, Due.bits(399.0)), Due.bits(7.0));
    }

    private static void kinds() {
        LayerHouse h = new LayerHouse();
        for (int kind = 0; kind < 7; kind++) {
            h.band(0, kind, 3);
            h.set(0, kind, 1, kind == Due.FLOAT ? Due.bits(100f) : kind == Due.DOUBLE ? Due.bits(100.0) : 100);
            at(h, NEAR, 1, 0, 100);
            at(h, LINEAR, 0.5, 0, 50);
        }
        Due.doubles(h, 0, NAN, -0.0, Double.MIN_VALUE);
        at(h, NEAR, 0, 0, NAN);
        at(h, NEAR, 1, 0, -0.0);
        at(h, NEAR, 2, 0, Double.MIN_VALUE);
    }

    private static void faults() {
        LayerHouse h = house();
        Due.no("29 reader", h, h.sample(5, 0, 3, 0, 0), Due.REFUSED);
        Due.no("29 reader below", h, h.sample(-1, 0, 3, 0, 0), Due.REFUSED);
        Due.no("29 p", h, h.sample(0, 12, 3, 0, 0), Due.REFUSED);
        Due.no("29 w 0", h, h.sample(0, 0, 0, 0, 0), Due.REFUSED);
        Due.no("29 w 401", h, h.sample(0, 8, 401, 0, 0), Due.REFUSED);
        Due.no("29 missing", h, h.sample(0, 8, 3, Due.bits(NAN), 0), Due.MISSING);
        h.band(1, Due.MARK, 3);
        Due.no("29 marks", h, h.sample(0, 1, 3, 0, 0), Due.WRONG);
        h.row(1, 0, 3);
        Due.no("29 a row", h, h.sample(0, 1, 3, 0, 0), Due.WRONG);
    }

    private static void stepOf() {
        LayerHouse h = new LayerHouse();
        Due.yes("30 NEAR", h, h.stepOf(NEAR, 7), 1);
        Due.yes("30 HELD", h, h.stepOf(HELD, 7), 1);
        Due.yes("30 ROUND", h, h.stepOf(ROUND, 7), 7);
        Due.yes("30 MIRROR", h, h.stepOf(MIRROR, 7), 14);
        Due.yes("30 LINEAR", h, h.stepOf(LINEAR, 7), 1);
        Due.yes("30 w 400", h, h.stepOf(MIRROR, 400), 800);
        Due.yes("30 w 1", h, h.stepOf(ROUND, 1), 1);
        Due.no("30 reader", h, h.stepOf(5, 7), Due.REFUSED);
        Due.no("30 reader below", h, h.stepOf(-1, 7), Due.REFUSED);
        Due.no("30 w 0", h, h.stepOf(0, 0), Due.REFUSED);
        Due.no("30 w 401", h, h.stepOf(0, 401), Due.REFUSED);
    }
}
