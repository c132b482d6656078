import java.util.Arrays;

/**
 * The document once more, written in the plainest Java with all that LANGUAGE.md forbids: real arrays of each KIND, the
 * machine's own doubles, casts, arraycopy and exceptions. OracleRuns compares LayerHouse with it.
 */
final class Oracle {
    static class Fault extends RuntimeException {
        final int kind;

        Fault(int kind) {
            super(null, null, false, false);
            this.kind = kind;
        }
    }

    static class Feature {
        final int number;

        Feature(int number) {
            this.number = number;
        }
    }

    static final class Line extends Feature {
        Line(int number) {
            super(number);
        }
    }

    static class Point extends Feature {
        Point(int number) {
            super(number);
        }
    }

    static final class Peak extends Point {
        Peak(int number) {
            super(number);
        }
    }

    static final int[] CODES = {0, 1, 2, 3, 4, 5, 6, 7, 8};

    final Object[] places = new Object[12];
    final int[][] steps = new int[60][];
    int stepCount;
    int told;
    int gone;
    int[] done = new int[7];
    long total;
    private boolean[] locked = new boolean[12];
    private int open;

    /** The calls by number, so that both sides can be driven alike; a boolean counts 1 or 0. */
    long call(int method, long[] a) {
        int[] i = new int[a.length];
        for (int k = 0; k < a.length; k++) {
            i[k] = (int) a[k];
        }
        switch (method) {
            case 0: return told;
            case 1: return holds(i[0]);
            case 31: return i[0] >= 0 && i[0] < 7 ? done[i[0]] : -1;
            case 32: return total;
            case 33: return gone;
            default: break;
        }
        told = 0;
        gone = 0;
        int[] went = {0};
        boolean answersNone = method == 8 || method == 9 || method == 12 || method == 13 || method >= 26 && method <= 29;
        try {
            long answer = act(method, i, a, went);
            gone = went[0];
            return answer;
        } catch (Fault f) {
            told = f.kind;
            gone = f.kind == 9 ? 0 : went[0];
            return answersNone ? -1 : 0;
        }
    }

    private long act(int method, int[] i, long[] a, int[] went) {
        switch (method) {
            case 2: return band(i[0], i[1], i[2]);
            case 3: return row(i[0], i[1], i[2]);
            case 4: return table(i[0], i[1], i[2]);
            case 5:
                place(i[0]);
                places[i[0]] = new double[][] {{Double.longBitsToDouble(a[1]), Double.longBitsToDouble(a[2])}};
                return 1;
            case 6:
                place(i[0]);
                places[i[0]] = null;
                return 1;
            case 7:
                place(i[0]);
                place(i[1]);
                places[i[1]] = ((int[]) bandOf(i[0], 3)).clone();
                return 1;
            case 8:
                place(i[0]);
                within(i[1], 0, 7);
                return length(bandOf(i[0], i[1]));
            case 9:
                place(i[0]);
                within(i[1], 0, 7);
                return bitsAt(bandOf(i[0], i[1]), i[2]);
            case 10:
                place(i[0]);
                within(i[1], 0, 7);
                return giveBits(bandOf(i[0], i[1]), i[2], a[3]);
            case 11: return feature(i[0], i[1], i[2], i[3]);
            case 12: return about(i[0], i[1], i[2]);
            case 13: {
                place(i[0]);
                int[] line = lineOf(i[0], i[1]);
                return line[index(i[2], line.length)];
            }
            case 14: {
                place(i[0]);
                int[] line = lineOf(i[0], i[1]);
                line[index(i[2], line.length)] = i[3];
                return 1;
            }
            case 15: {
                place(i[0]);
                within(i[2], -1, 20);
                int[][] t = tableOf(i[0]);
                t[index(i[1], t.length)] = i[2] == -1 ? null : new int[i[2]];
                return 1;
            }
            case 16: return move(i[0], i[1], i[2], i[3], i[4]);
            case 17: return reckon(i[0], i[1], i[2], i[3], went);
            case 18: return compare(i[0], i[1], i[2], i[3], went);
            case 19: return mark(i[0], i[1], i[2], i[3], went);
            case 20: return choose(i[0], i[1], i[2], i[3], went);
            case 21: return turn(i[0], i[1], i[2], went);
            case 22: return bits(i[0], i[1], went);
            case 23: return math(i[0], i[1], i[2], went);
            case 24: return fuse(i[0], i[1], i[2], i[3], went);
            case 25: return apply(i[0], i[1], i[2], went);
            case 26: return stat(i[0], i[1], went);
            case 27: return sample(i[0], i[1], i[2], Double.longBitsToDouble(a[3]), Double.longBitsToDouble(a[4]));
            case 28:
                within(i[0], 0, 4);
                within(i[1], 1, 400);
                return i[0] == 2 ? i[1] : i[0] == 3 ? 2 * i[1] : 1;
            case 29:
                within(i[0], 0, 8);
                if (stepCount == 60) throw new Fault(9);
                steps[stepCount++] = new int[] {i[0], i[1], i[2], i[3]};
                return stepCount;
            case 30: return job();
            default: throw new IllegalStateException("method " + method);
        }
    }

    // ---- what is asked

    static void within(int v, int least, int greatest) {
        if (v < least || v > greatest) throw new Fault(9);
    }

    static void place(int p) {
        within(p, 0, 11);
    }

    static int index(int i, int length) {
        if (i < 0 || i >= length) throw new Fault(3);
        return i;
    }

    Object there(int p) {
        if (places[p] == null) throw new Fault(1);
        return places[p];
    }

    static int kindOf(Object o) {
        return o instanceof byte[] ? 0 : o instanceof char[] ? 1 : o instanceof short[] ? 2 : o instanceof int[] ? 3
            : o instanceof long[] ? 4 : o instanceof float[] ? 5 : o instanceof double[] ? 6 : o instanceof boolean[] ? 7 : -1;
    }

    Object bandOf(int p, int kind) {
        if (kindOf(there(p)) != kind) throw new Fault(2);
        return places[p];
    }

    Object numbersOf(int p) {
        int kind = kindOf(there(p));
        if (kind < 0 || kind > 6) throw new Fault(2);
        return places[p];
    }

    int[][] tableOf(int p) {
        if (there(p) instanceof int[][] t) return t;
        throw new Fault(2);
    }

    int[] lineOf(int p, int i) {
        int[][] t = tableOf(p);
        int[] line = t[index(i, t.length)];
        if (line == null) throw new Fault(1);
        return line;
    }

    Feature[] rowOf(int p) {
        if (there(p) instanceof Feature[] r) return r;
        throw new Fault(2);
    }

    static int length(Object band) {
        return java.lang.reflect.Array.getLength(band);
    }

    static int sortOf(Feature f) {
        return f instanceof Peak ? 3 : f instanceof Point ? 2 : 1;
    }

    int holds(int p) {
        if (p < 0 || p > 11 || places[p] == null) return -1;
        Object o = places[p];
        if (kindOf(o) >= 0) return kindOf(o);
        if (o instanceof Line[]) return 9;
        if (o instanceof Peak[]) return 11;
        if (o instanceof Point[]) return 10;
        if (o instanceof Feature[]) return 8;
        return o instanceof int[][] ? 12 : 13;
    }

    // ---- making

    static Object newBand(int kind, int n) {
        switch (kind) {
            case 0: return new byte[n];
            case 1: return new char[n];
            case 2: return new short[n];
            case 3: return new int[n];
            case 4: return new long[n];
            case 5: return new float[n];
            case 6: return new double[n];
            default: return new boolean[n];
        }
    }

    long band(int p, int kind, int n) {
        place(p);
        within(kind, 0, 7);
        within(n, -400, 400);
        if (n < 0) throw new Fault(4);
        places[p] = newBand(kind, n);
        return 1;
    }

    long row(int p, int sort, int n) {
        place(p);
        within(sort, 0, 3);
        within(n, -40, 40);
        if (n < 0) throw new Fault(4);
        places[p] = sort == 0 ? new Feature[n] : sort == 1 ? new Line[n] : sort == 2 ? new Point[n] : new Peak[n];
        return 1;
    }

    long table(int p, int n, int m) {
        place(p);
        within(n, -20, 20);
        within(m, -20, 21);
        if (n < 0 || m < 0) throw new Fault(4);
        places[p] = m == 21 ? new int[n][] : new int[n][m];
        return 1;
    }

    // ---- cells

    static long bitsAt(Object band, int i) {
        index(i, length(band));
        switch (kindOf(band)) {
            case 5: return Float.floatToIntBits(((float[]) band)[i]);
            case 6: return Double.doubleToLongBits(((double[]) band)[i]);
            case 7: return ((boolean[]) band)[i] ? 1 : 0;
            default: return wholeAt(band, i);
        }
    }

    static long giveBits(Object band, int i, long bits) {
        index(i, length(band));
        switch (kindOf(band)) {
            case 0: ((byte[]) band)[i] = (byte) bits; break;
            case 1: ((char[]) band)[i] = (char) bits; break;
            case 2: ((short[]) band)[i] = (short) bits; break;
            case 3: ((int[]) band)[i] = (int) bits; break;
            case 4: ((long[]) band)[i] = bits; break;
            case 5: ((float[]) band)[i] = Float.intBitsToFloat((int) bits); break;
            case 6: ((double[]) band)[i] = Double.longBitsToDouble(bits); break;
            default: ((boolean[]) band)[i] = (bits & 1) == 1; break;
        }
        return 1;
    }

    static long wholeAt(Object band, int i) {
        switch (kindOf(band)) {
            case 0: return ((byte[]) band)[i];
            case 1: return ((char[]) band)[i];
            case 2: return ((short[]) band)[i];
            case 3: return ((int[]) band)[i];
            default: return ((long[]) band)[i];
        }
    }

    static float floatAt(Object band, int i) {
        int kind = kindOf(band);
        return kind == 6 ? (float) ((double[]) band)[i] : kind == 5 ? ((float[]) band)[i] : (float) wholeAt(band, i);
    }

    static double doubleAt(Object band, int i) {
        int kind = kindOf(band);
        return kind == 6 ? ((double[]) band)[i] : kind == 5 ? ((float[]) band)[i] : (double) wholeAt(band, i);
    }

    long feature(int p, int i, int sort, int number) {
        place(p);
        within(sort, 0, 3);
        Feature[] row = rowOf(p);
        index(i, row.length);
        try {
            row[i] = sort == 0 ? null : sort == 1 ? new Line(number) : sort == 2 ? new Point(number) : new Peak(number);
        } catch (ArrayStoreException e) {
            throw new Fault(5);
        }
        return 1;
    }

    long about(int p, int i, int what) {
        place(p);
        within(what, 0, 4);
        Feature[] row = rowOf(p);
        Feature f = row[index(i, row.length)];
        if (f == null) throw new Fault(1);
        boolean isSuch = what < 2 || (what == 2 ? f instanceof Point : what == 3 ? f instanceof Peak : f instanceof Line);
        if (!isSuch) throw new Fault(2);
        return what == 0 ? sortOf(f) : f.number;
    }

    long move(int p, int i, int q, int j, int n) {
        place(p);
        place(q);
        there(p);
        there(q);
        try {
            if (places[p] instanceof double[][] || places[q] instanceof double[][]) throw new Fault(2);
            if ((kindOf(places[p]) >= 0 || kindOf(places[q]) >= 0) && kindOf(places[p]) != kindOf(places[q])) throw new Fault(2);
            System.arraycopy(places[p], i, places[q], j, n);
        } catch (ArrayStoreException e) {
            throw new Fault(5);
        } catch (IndexOutOfBoundsException e) {
            throw new Fault(3);
        }
        return 1;
    }

    // ---- reckoning

    static int wider(Object a, Object b) {
        int x = kindOf(a);
        int y = kindOf(b);
        return x == 6 || y == 6 ? 6 : x == 5 || y == 5 ? 5 : x == 4 || y == 4 ? 4 : 3;
    }

    long reckon(int op, int p, int q, int r, int[] went) {
        within(op, 0, 6);
        place(p);
        place(q);
        place(r);
        Object a = numbersOf(p);
        Object b = numbersOf(q);
        int kind = wider(a, b);
        Object made = newBand(kind, length(a));
        for (int k = 0; k < length(a); k++) {
            went[0]++;
            index(k, length(b));
            switch (kind) {
                case 6: ((double[]) made)[k] = real(op, doubleAt(a, k), doubleAt(b, k)); break;
                case 5: ((float[]) made)[k] = real(op, floatAt(a, k), floatAt(b, k)); break;
                case 4: ((long[]) made)[k] = whole(op, wholeAt(a, k), wholeAt(b, k)); break;
                default: ((int[]) made)[k] = whole(op, (int) wholeAt(a, k), (int) wholeAt(b, k)); break;
            }
        }
        places[r] = made;
        return 1;
    }

    static double real(int op, double a, double b) {
        return op == 0 ? a + b : op == 1 ? a - b : op == 2 ? a * b : op == 3 ? a / b : op == 4 ? a % b
            : op == 5 ? Math.min(a, b) : Math.max(a, b);
    }

    static float real(int op, float a, float b) {
        return op == 0 ? a + b : op == 1 ? a - b : op == 2 ? a * b : op == 3 ? a / b : op == 4 ? a % b
            : op == 5 ? Math.min(a, b) : Math.max(a, b);
    }

    static long whole(int op, long a, long b) {
        if ((op == 3 || op == 4) && b == 0) throw new Fault(6);
        return op == 0 ? a + b : op == 1 ? a - b : op == 2 ? a * b : op == 3 ? a / b : op == 4 ? a % b
            : op == 5 ? Math.min(a, b) : Math.max(a, b);
    }

    static int whole(int op, int a, int b) {
        if ((op == 3 || op == 4) && b == 0) throw new Fault(6);
        return op == 0 ? a + b : op == 1 ? a - b : op == 2 ? a * b : op == 3 ? a / b : op == 4 ? a % b
            : op == 5 ? Math.min(a, b) : Math.max(a, b);
    }

    long compare(int op, int p, int q, int r, int[] went) {
        within(op, 0, 5);
        place(p);
        place(q);
        place(r);
        Object a = numbersOf(p);
        Object b = numbersOf(q);
        boolean[] made = new boolean[length(a)];
        for (int k = 0; k < made.length; k++) {
            went[0]++;
            index(k, length(b));
            switch (wider(a, b)) {
                case 6: {
                    double x = doubleAt(a, k);
                    double y = doubleAt(b, k);
                    made[k] = op == 0 ? x < y : op == 1 ? x <= y : op == 2 ? x > y : op == 3 ? x >= y : op == 4 ? x == y : x != y;
                    break;
                }
                case 5: {
                    float x = floatAt(a, k);
                    float y = floatAt(b, k);
                    made[k] = op == 0 ? x < y : op == 1 ? x <= y : op == 2 ? x > y : op == 3 ? x >= y : op == 4 ? x == y : x != y;
                    break;
                }
                default: {
                    long x = wholeAt(a, k);
                    long y = wholeAt(b, k);
                    made[k] = op == 0 ? x < y : op == 1 ? x <= y : op == 2 ? x > y : op == 3 ? x >= y : op == 4 ? x == y : x != y;
                    break;
                }
            }
        }
        places[r] = made;
        return 1;
    }

    long mark(int op, int p, int q, int r, int[] went) {
        within(op, 0, 3);
        place(p);
        place(q);
        place(r);
        boolean[] a = (boolean[]) bandOf(p, 7);
        boolean[] b = op == 3 ? null : (boolean[]) bandOf(q, 7);
        boolean[] made = new boolean[a.length];
        for (int k = 0; k < made.length; k++) {
            went[0]++;
            made[k] = op == 3 ? !a[k] : op == 0 ? a[k] & b[index(k, b.length)]
                : op == 1 ? a[k] | b[index(k, b.length)] : a[k] ^ b[index(k, b.length)];
        }
        places[r] = made;
        return 1;
    }

    long choose(int m, int p, int q, int r, int[] went) {
        place(m);
        place(p);
        place(q);
        place(r);
        boolean[] marks = (boolean[]) bandOf(m, 7);
        Object a = numbersOf(p);
        Object b = numbersOf(q);
        int kind = wider(a, b);
        Object made = newBand(kind, marks.length);
        for (int k = 0; k < marks.length; k++) {
            went[0]++;
            index(k, length(a));
            index(k, length(b));
            turnCell(marks[k] ? a : b, made, k);
        }
        places[r] = made;
        return 1;
    }

    static void turnCell(Object from, Object to, int k) {
        int kind = kindOf(from);
        if (kind == 7) {
            byte[] asNumber = {(byte) (((boolean[]) from)[k] ? 1 : 0)};
            Object one = newBand(kindOf(to), 1);
            turnCell(asNumber, one, 0);
            System.arraycopy(one, 0, to, k, 1);
            return;
        }
        boolean isReal = kind > 4;
        double d = doubleAt(from, k);
        long v = isReal ? 0 : wholeAt(from, k);
        switch (kindOf(to)) {
            case 0: ((byte[]) to)[k] = isReal ? (byte) d : (byte) v; break;
            case 1: ((char[]) to)[k] = isReal ? (char) d : (char) v; break;
            case 2: ((short[]) to)[k] = isReal ? (short) d : (short) v; break;
            case 3: ((int[]) to)[k] = isReal ? (int) d : (int) v; break;
            case 4: ((long[]) to)[k] = isReal ? (long) d : v; break;
            case 5: ((float[]) to)[k] = floatAt(from, k); break;
            case 6: ((double[]) to)[k] = d; break;
            default: ((boolean[]) to)[k] = isReal ? d != 0 : v != 0; break;
        }
    }

    long turn(int kind, int p, int r, int[] went) {
        within(kind, 0, 7);
        place(p);
        place(r);
        if (kindOf(there(p)) < 0) throw new Fault(2);
        Object a = places[p];
        Object made = newBand(kind, length(a));
        for (int k = 0; k < length(a); k++) {
            went[0]++;
            turnCell(a, made, k);
        }
        places[r] = made;
        return 1;
    }

    long bits(int p, int r, int[] went) {
        place(p);
        place(r);
        int kind = kindOf(there(p));
        if (kind < 3 || kind > 6) throw new Fault(2);
        Object made = newBand(kind == 3 ? 5 : kind == 4 ? 6 : kind == 5 ? 3 : 4, length(places[p]));
        for (int k = 0; k < length(made); k++) {
            went[0]++;
            giveBits(made, k, bitsAt(places[p], k));
        }
        places[r] = made;
        return 1;
    }

    long math(int op, int p, int r, int[] went) {
        within(op, 0, 11);
        place(p);
        place(r);
        Object a = numbersOf(p);
        boolean single = kindOf(a) == 5;
        int n = length(a);
        Object made = newBand(op == 9 ? 3 : op == 11 ? (single ? 3 : 4) : single ? 5 : 6, n);
        for (int k = 0; k < n; k++) {
            went[0]++;
            float f = single ? floatAt(a, k) : 0;
            double d = doubleAt(a, k);
            if (op == 9) {
                ((int[]) made)[k] = single ? Math.getExponent(f) : Math.getExponent(d);
            } else if (op == 11 && single) {
                ((int[]) made)[k] = Math.round(f);
            } else if (op == 11) {
                ((long[]) made)[k] = Math.round(d);
            } else if (single) {
                ((float[]) made)[k] = mathOf(op, f);
            } else {
                ((double[]) made)[k] = mathOf(op, d);
            }
        }
        places[r] = made;
        return 1;
    }

    static float mathOf(int op, float f) {
        switch (op) {
            case 0: return Math.abs(f);
            case 4: return Math.signum(f);
            case 6: return Math.ulp(f);
            case 7: return Math.nextUp(f);
            case 8: return Math.copySign(f - 1, f);
            case 10: return Math.scalb(f, 3);
            default: return (float) mathOf(op, (double) f);
        }
    }

    static double mathOf(int op, double d) {
        switch (op) {
            case 0: return Math.abs(d);
            case 1: return Math.floor(d);
            case 2: return Math.ceil(d);
            case 3: return Math.rint(d);
            case 4: return Math.signum(d);
            case 5: return Math.sqrt(d);
            case 6: return Math.ulp(d);
            case 7: return Math.nextUp(d);
            case 8: return Math.copySign(d - 1, d);
            default: return Math.scalb(d, 3);
        }
    }

    long fuse(int p, int q, int s, int r, int[] went) {
        place(p);
        place(q);
        place(s);
        place(r);
        Object a = numbersOf(p);
        Object b = numbersOf(q);
        Object c = numbersOf(s);
        boolean single = kindOf(a) == 5 && kindOf(b) == 5 && kindOf(c) == 5;
        Object made = newBand(single ? 5 : 6, length(a));
        for (int k = 0; k < length(a); k++) {
            went[0]++;
            index(k, length(b));
            index(k, length(c));
            if (single) {
                ((float[]) made)[k] = floatAt(a, k) * floatAt(b, k) + floatAt(c, k);
            } else {
                ((double[]) made)[k] = doubleAt(a, k) * doubleAt(b, k) + doubleAt(c, k);
            }
        }
        places[r] = made;
        return 1;
    }

    long apply(int p, int q, int r, int[] went) {
        place(p);
        place(q);
        place(r);
        Object a = numbersOf(p);
        if (!(there(q) instanceof double[][] scale)) throw new Fault(2);
        double[] made = new double[length(a)];
        for (int k = 0; k < made.length; k++) {
            went[0]++;
            made[k] = doubleAt(a, k) * scale[0][0] + scale[0][1];
        }
        places[r] = made;
        return 1;
    }

    long stat(int op, int p, int[] went) {
        within(op, 0, 5);
        place(p);
        Object a = numbersOf(p);
        double least = Double.NaN;
        double greatest = Double.NaN;
        double sum = 0;
        double careful = 0;
        double e = 0;
        int nans = 0;
        for (int k = 0; k < length(a); k++) {
            went[0]++;
            double x = doubleAt(a, k);
            least = k == 0 ? x : Math.min(least, x);
            greatest = k == 0 ? x : Math.max(greatest, x);
            sum += x;
            if (Double.isNaN(x)) {
                nans++;
            } else {
                double y = x - e;
                double t = careful + y;
                e = (t - careful) - y;
                careful = t;
            }
        }
        double[] all = {least, greatest, sum, sum / length(a), nans, careful};
        return Double.doubleToLongBits(all[op]);
    }

    long sample(int reader, int p, int w, double x, double y) {
        within(reader, 0, 4);
        place(p);
        within(w, 1, 400);
        Object a = numbersOf(p);
        return Double.doubleToLongBits(sampled(reader, a, w, length(a) / w, x, y));
    }

    private static double plain(Object a, int w, int h, long i, long j) {
        return i < 0 || i >= w || j < 0 || j >= h ? Double.NaN : doubleAt(a, (int) (j * w + i));
    }

    private static double clamped(Object a, int w, int h, long i, long j) {
        return h == 0 ? Double.NaN : plain(a, w, h, Math.min(w - 1, Math.max(0, i)), Math.min(h - 1, Math.max(0, j)));
    }

    private static double beside(Object a, int w, int h, long i, long j) {
        return i < -1 || i > w || j < -1 || j > h ? Double.NaN : clamped(a, w, h, i, j);
    }

    private static double sampled(int reader, Object a, int w, int h, double x, double y) {
        if (!(Math.abs(x) < 1e9 && Math.abs(y) < 1e9)) return Double.NaN;
        if (reader == 4) {
            long i = (long) Math.floor(x);
            long j = (long) Math.floor(y);
            double f = x - i;
            double g = y - j;
            double left = beside(a, w, h, i, j);
            double p = left + f * (beside(a, w, h, i + 1, j) - left);
            double under = beside(a, w, h, i, j + 1);
            double q = under + f * (beside(a, w, h, i + 1, j + 1) - under);
            return p + g * (q - p);
        }
        long i = (long) Math.floor((reader == 3 ? Math.abs(x) : x) + 0.5);
        long j = (long) Math.floor((reader == 3 ? Math.abs(y) : y) + 0.5);
        if (reader == 0) return plain(a, w, h, i, j);
        if (reader == 1) return clamped(a, w, h, i, j);
        return h == 0 ? Double.NaN : plain(a, w, h, Math.floorMod(i, (long) w), Math.floorMod(j, (long) h));
    }

    // ---- jobs

    long job() {
        int n = stepCount;
        stepCount = 0;
        done = new int[7];
        total = 0;
        int stuck = stuckAt(n);
        done[6] = stuck;
        if (stuck != -1) throw new Fault(9);
        locked = new boolean[12];
        open = 0;
        run(0, n);
        return 1;
    }

    private int stuckAt(int n) {
        StringBuilder begun = new StringBuilder();
        for (int at = 0; at < n; at++) {
            int code = steps[at][0];
            int last = begun.length() - 1;
            if (code == 0 || code == 2) {
                if (begun.length() == 8) return at;
                begun.append(code == 0 ? 's' : 'g');
            } else if (code == 1 || code == 3) {
                if (last < 0 || begun.charAt(last) != (code == 1 ? 's' : 'g')) return at;
                begun.setLength(last);
            }
        }
        return begun.length() == 0 ? -1 : n;
    }

    private int lastOf(int at) {
        int depth = 0;
        for (int k = at; ; k++) {
            int code = steps[k][0];
            depth += code == 0 || code == 2 ? 1 : code == 1 || code == 3 ? -1 : 0;
            if (depth == 0) return k;
        }
    }

    private void run(int from, int to) {
        for (int at = from; at < to; at++) {
            int[] s = steps[at];
            if (s[0] == 0) {
                int last = lastOf(at);
                scope(s[1], at + 1, last);
                at = last;
            } else if (s[0] == 2) {
                int last = lastOf(at);
                done[4]++;
                try {
                    run(at + 1, last);
                    done[4]++;
                } catch (Fault f) {
                    done[2]++;
                    done[3] = f.kind;
                }
                at = last;
            } else {
                plainStep(s[0], s[1], s[2], s[3]);
                done[4]++;
            }
        }
    }

    private void scope(int p, int from, int to) {
        place(p);
        if (locked[p]) throw new Fault(7);
        locked[p] = true;
        open++;
        done[0]++;
        done[4]++;
        done[5] = Math.max(done[5], open);
        try {
            run(from, to);
            done[4]++;
        } finally {
            locked[p] = false;
            open--;
            done[1]++;
        }
    }

    private void plainStep(int code, int a, int b, int c) {
        switch (code) {
            case 4:
                move(a, 0, b, 0, c);
                break;
            case 5:
                place(a);
                within(b, 0, 7);
                total += bitsAt(bandOf(a, b), c);
                break;
            case 6:
                place(a);
                if (kindOf(there(a)) < 0) throw new Fault(2);
                giveBits(places[a], c, b);
                break;
            case 7:
                throw new Fault(8);
            default: {
                place(a);
                place(b);
                Object held = places[a];
                places[a] = places[b];
                places[b] = held;
                break;
            }
        }
    }

    @Override
    public String toString() {
        return Arrays.deepToString(places);
    }
}
