/** What the tests share: an answer and the one that is due. */
final class Due {
    static final int BYTE = 0;
    static final int SIGN = 1;
    static final int SHORT = 2;
    static final int INT = 3;
    static final int LONG = 4;
    static final int FLOAT = 5;
    static final int DOUBLE = 6;
    static final int MARK = 7;

    static final int MISSING = 1;
    static final int WRONG = 2;
    static final int OUTSIDE = 3;
    static final int NEGATIVE = 4;
    static final int UNFIT = 5;
    static final int ZERO = 6;
    static final int LOCKED = 7;
    static final int RAISED = 8;
    static final int REFUSED = 9;

    private static int asked;
    private static int wrong;

    static void is(String what, long got, long want) {
        asked++;
        if (got != want) {
            wrong++;
            System.out.println(what + " answered " + got + ", due is " + want);
        }
    }

    /** An act that has no FAULT. */
    static void yes(String what, LayerHouse h, boolean got) {
        is(what, got ? 1 : 0, 1);
        is(what + " told", h.told(), 0);
    }

    /** An act that answers a number, and has no FAULT. */
    static void yes(String what, LayerHouse h, long got, long want) {
        is(what, got, want);
        is(what + " told", h.told(), 0);
    }

    static void no(String what, LayerHouse h, boolean got, int fault) {
        is(what, got ? 1 : 0, 0);
        is(what + " told", h.told(), fault);
    }

    static void no(String what, LayerHouse h, long got, int fault) {
        is(what, got, LayerHouse.NONE);
        is(what + " told", h.told(), fault);
    }

    static long bits(double d) {
        return Double.doubleToLongBits(d);
    }

    static long bits(float f) {
        return Float.floatToIntBits(f);
    }

    static void wholes(LayerHouse h, int p, int kind, long... cells) {
        h.band(p, kind, cells.length);
        for (int i = 0; i < cells.length; i++) {
            h.set(p, kind, i, cells[i]);
        }
    }

    static void doubles(LayerHouse h, int p, double... cells) {
        long[] bits = new long[cells.length];
        for (int i = 0; i < cells.length; i++) {
            bits[i] = bits(cells[i]);
        }
        wholes(h, p, DOUBLE, bits);
    }

    static void floats(LayerHouse h, int p, float... cells) {
        long[] bits = new long[cells.length];
        for (int i = 0; i < cells.length; i++) {
            bits[i] = bits(cells[i]);
        }
        wholes(h, p, FLOAT, bits);
    }

    /** That place p holds a BAND of this KIND with these cells by BITS, no more and no fewer. */
    static void holds(String what, LayerHouse h, int p, int kind, long... cells) {
        is(what + " kind", h.holds(p), kind);
        is(what + " size", h.size(p, kind), cells.length);
        for (int i = 0; i < cells.length; i++) {
            is(what + " cell " + i, h.get(p, kind, i), cells[i]);
        }
    }

    static void holdsDoubles(String what, LayerHouse h, int p, double... cells) {
        long[] bits = new long[cells.length];
        for (int i = 0; i < cells.length; i++) {
            bits[i] = bits(cells[i]);
        }
        holds(what, h, p, DOUBLE, bits);
    }

    static void holdsFloats(String what, LayerHouse h, int p, float... cells) {
        long[] bits = new long[cells.length];
        for (int i = 0; i < cells.length; i++) {
            bits[i] = bits(cells[i]);
        }
        holds(what, h, p, FLOAT, bits);
    }

    static void end(String test) {
        System.out.println(test + ": " + asked + " answers, " + wrong + " not as due");
        if (wrong != 0 || asked == 0) {
            System.exit(1);
        }
    }
}
