import java.util.ArrayList;
import java.util.Arrays;
import java.util.List;
import java.util.Random;

/** Seeded runs of calls on LayerHouse and on Oracle; every answer, told() and gone() must agree, and the state at the end. */
public final class OracleRuns {
    private static final String[] NAMES = Calls.NAMES;
    private static final int[] WIDTHS = {0, 1, 3, 3, 3, 3, 1, 2, 2, 3, 4, 4, 3, 3, 4, 3, 5, 4, 4, 4, 4, 3, 2, 3, 4, 3, 2, 5, 2, 4, 0, 1, 0, 0};
    private static final int RUNS = 12000;
    private static final int CALLS_AHEAD_OF_STATE = 380;

    private static final double[] DOUBLES = {
        0.0, -0.0, 1, -1, 0.5, -0.5, 1.5, 2.5, -2.5, 3, 7, 0.1, 1e9, -1e9, 999999999.5, 1e300, -1e300, 1e-300,
        Double.NaN, Double.POSITIVE_INFINITY, Double.NEGATIVE_INFINITY, Double.MAX_VALUE, -Double.MAX_VALUE,
        Double.MIN_VALUE, -Double.MIN_VALUE, Double.MIN_NORMAL, Long.MAX_VALUE, Long.MIN_VALUE, Integer.MAX_VALUE,
        Integer.MIN_VALUE, 4503599627370495.5, 4503599627370496.0, 9007199254740991.0, 0.49999999999999994,
        -0.49999999999999994, Float.MAX_VALUE, Float.MIN_VALUE, Float.MIN_NORMAL, 3.4028235677973366e38,
        7.006492321624085e-46, 1.0000000596046448, 2147483647.5, 2147483648.5, -2147483648.5, -2147483649.0};
    private static final float[] FLOATS = {
        0f, -0f, 1f, -1f, 0.5f, -0.5f, 1.5f, 2.5f, 3f, 0.1f, 1e9f, 1e38f, -1e38f, 1e-40f, Float.NaN,
        Float.POSITIVE_INFINITY, Float.NEGATIVE_INFINITY, Float.MAX_VALUE, -Float.MAX_VALUE, Float.MIN_VALUE,
        -Float.MIN_VALUE, Float.MIN_NORMAL, 8388607.5f, 8388608f, 16777217f, 0.49999997f, 2147483647f, -2147483648f};
    private static final long[] WHOLES = {
        0, 1, -1, 2, -2, 3, 5, 7, 127, 128, -128, -129, 255, 32767, 32768, -32768, 65535, 65536, Integer.MAX_VALUE,
        Integer.MIN_VALUE, Long.MAX_VALUE, Long.MIN_VALUE, 16777217, 33554433, 9007199254740993L, -9007199254740993L,
        9223371761976868863L, 36028797018963967L, 0x7fa00001L, 0xff800001L, 0x7ff0000000000001L, 0xfff8000000000001L};

    /** What comes close to 0 from both sides: drawn from so few, the cells of a run meet in all ways. */
    private static final double[] FEW = {0.0, -0.0, 0.0, -0.0, 1, -1, Double.MIN_VALUE, -Double.MIN_VALUE, Double.NaN};

    private final Random random;
    private final LayerHouse house = new LayerHouse();
    private final Oracle oracle = new Oracle();
    private final List<String> calls = new ArrayList<>();
    private final int largest;
    private final boolean drawsFew;

    private OracleRuns(long seed) {
        random = new Random(seed);
        largest = seed % 50 == 0 ? 400 : 6;
        drawsFew = seed % 3 == 1;
    }

    public static void main(String[] args) {
        int wrong = 0;
        int runs = args.length > 0 ? Integer.parseInt(args[0]) : RUNS;
        for (long seed = 0; seed < runs && wrong < 5; seed++) {
            String fault = new OracleRuns(seed).run();
            if (fault != null) {
                wrong++;
                System.out.println("seed " + seed + ": " + fault);
            }
        }
        System.out.println(runs + " runs against the oracle, " + wrong + " wrong");
        if (wrong != 0) System.exit(1);
    }

    private String run() {
        String fault = null;
        while (fault == null && calls.size() < CALLS_AHEAD_OF_STATE) {
            int method = pickMethod();
            long[] a = arguments(method);
            fault = compare(method, a);
            if (fault == null) fault = compare(0, new long[0]);
            if (fault == null) fault = compare(33, new long[0]);
            if (fault == null && method == 30) fault = compareResults();
            if (fault == null && method == 2 && random.nextInt(4) != 0) fault = fill((int) a[0]);
        }
        return fault == null ? compareState() : fault;
    }

    /** Cells that are all 0 show little of what is reckoned with them. */
    private String fill(int p) {
        int kind = oracle.holds(p);
        String fault = null;
        for (int i = 0; i < 8 && kind >= 0 && kind < 8 && fault == null; i++) {
            fault = compare(10, new long[] {p, kind, i, drawsFew ? few(kind) : bits()});
        }
        return fault;
    }

    private String compare(int method, long[] a) {
        String call = NAMES[method] + Arrays.toString(a);
        calls.add(call);
        long due = oracle.call(method, a);
        long got = Calls.call(house, NAMES[method], a);
        if (got == due) return null;
        int from = Math.max(0, calls.size() - 30);
        return call + " answered " + got + " (" + Long.toHexString(got) + "), due is " + due + " (" + Long.toHexString(due)
            + ") behind " + calls.subList(from, calls.size()) + " with " + oracle;
    }

    private String compareResults() {
        String fault = compare(32, new long[0]);
        for (int what = -1; what < 8 && fault == null; what++) {
            fault = compare(31, new long[] {what});
        }
        return fault;
    }

    /** As many cells of all places as the calls that are left can ask. */
    private String compareState() {
        String fault = null;
        for (int i = 0; fault == null && calls.size() + 24 < Calls.MOST; i++) {
            for (int p = 0; p < 12 && fault == null; p++) {
                int held = oracle.holds(p);
                if (i == 0) fault = compare(1, new long[] {p});
                if (fault == null && held >= 0 && held < 8) {
                    fault = compare(9, new long[] {p, held, i});
                } else if (fault == null && held >= 8 && held < 12) {
                    fault = compare(12, new long[] {p, i, 1});
                } else if (fault == null && held == 12) {
                    fault = compare(13, new long[] {p, i % 5, i / 5});
                } else if (fault == null) {
                    fault = compare(1, new long[] {p});
                }
            }
        }
        return fault;
    }

    private int pickMethod() {
        int dice = random.nextInt(100);
        if (dice < 12) return 2;
        if (dice < 16) return 3 + random.nextInt(3);
        if (dice < 36) return 10;
        if (dice < 48) return 11 + random.nextInt(6);
        if (dice < 78) return 17 + random.nextInt(11);
        if (dice < 93) return 29;
        if (dice < 95) return 30;
        return random.nextInt(NAMES.length);
    }

    private long[] arguments(int method) {
        long[] a = new long[WIDTHS[method]];
        for (int k = 0; k < a.length; k++) {
            a[k] = argument(method, k);
        }
        if ((method == 9 || method == 10 || method == 8) && random.nextInt(10) != 0 && a[0] >= 0 && a[0] < 12) {
            int held = oracle.holds((int) a[0]);
            if (held >= 0 && held < 8) a[1] = held;
            if (method == 10 && drawsFew) a[3] = few((int) a[1]);
        }
        if (method == 29) fillStep(a);
        return a;
    }

    private void fillStep(long[] a) {
        if (random.nextInt(4) == 0) {
            a[0] = random.nextInt(4);
        } else if (random.nextInt(40) != 0) {
            a[0] = 4 + random.nextInt(5);
            if (a[0] == 7 && random.nextInt(3) != 0) a[0] = 5;
        }
        balanceJob(a);
        if (a[0] == 5) {
            int held = oracle.holds((int) a[1]);
            a[2] = held >= 0 && held < 8 && random.nextInt(8) != 0 ? held : random.nextInt(9) - 1;
        } else if (a[0] == 6) {
            a[2] = (int) bits();
        } else {
            a[2] = place();
        }
    }

    /** Left to chance hardly any JOB would be one: mostly end what is begun, with its own kind. */
    private void balanceJob(long[] a) {
        if (random.nextInt(12) == 0) return;
        int[] begun = new int[60];
        int depth = 0;
        for (int k = 0; k < oracle.stepCount; k++) {
            int code = oracle.steps[k][0];
            if (code == 0 || code == 2) begun[depth++] = code;
            if ((code == 1 || code == 3) && depth > 0) depth--;
        }
        if (a[0] == 1 || a[0] == 3) a[0] = depth == 0 ? 5 : begun[depth - 1] + 1;
        if (depth > 0 && oracle.stepCount > 8) a[0] = begun[depth - 1] + 1;
    }

    private long argument(int method, int k) {
        switch (NAMES[method]) {
            case "holds": case "clear": case "keep": case "bits": case "apply": case "fuse": case "choose": return place();
            case "band": return k == 0 ? place() : k == 1 ? small(-1, 8) : length();
            case "row": return k == 0 ? place() : k == 1 ? small(-1, 4) : random.nextInt(30) == 0 ? small(-42, 42) : small(-1, 6);
            case "table": return k == 0 ? place() : random.nextInt(30) == 0 ? small(-22, 22) : k == 2 && random.nextInt(4) == 0 ? 21 : small(-1, 5);
            case "scale": return k == 0 ? place() : bits();
            case "size": return k == 0 ? place() : small(-1, 8);
            case "get": return k == 0 ? place() : k == 1 ? small(-1, 8) : small(-1, largest + 1);
            case "set": return k == 0 ? place() : k == 1 ? small(-1, 8) : k == 2 ? small(-1, largest) : bits();
            case "feature": return k == 0 ? place() : k == 1 ? small(-1, 6) : k == 2 ? small(-1, 4) : random.nextInt(100);
            case "about": return k == 0 ? place() : k == 1 ? small(-1, 6) : small(-1, 5);
            case "entry": case "enter": return k == 0 ? place() : k < 3 ? small(-1, 5) : random.nextInt();
            case "line": return k == 0 ? place() : k == 1 ? small(-1, 5) : random.nextInt(20) == 0 ? 21 : small(-2, 6);
            case "move": return k == 0 || k == 2 ? place() : random.nextInt(20) == 0 ? random.nextInt() : small(-1, 4);
            case "reckon": return k == 0 ? small(-1, 7) : place();
            case "compare": return k == 0 ? small(-1, 6) : place();
            case "mark": return k == 0 ? small(-1, 4) : place();
            case "turn": return k == 0 ? small(-1, 8) : place();
            case "math": return k == 0 ? small(-1, 12) : place();
            case "stat": return k == 0 ? small(-1, 6) : place();
            case "sample": return k == 0 ? small(-1, 5) : k == 1 ? place() : k == 2 ? (random.nextInt(20) == 0 ? small(-1, 402) : small(1, 5)) : coordinate();
            case "stepOf": return k == 0 ? small(-1, 5) : small(-1, 402);
            case "step": return k == 0 ? small(-1, 9) : k == 3 ? small(-1, largest) : place();
            case "done": return small(-1, 8);
            default: return 0;
        }
    }

    private long small(int least, int greatest) {
        return least + random.nextInt(greatest - least + 1);
    }

    private long place() {
        return random.nextInt(60) == 0 ? (random.nextBoolean() ? -1 : 12) : random.nextInt(12) % (3 + random.nextInt(10));
    }

    private long length() {
        return random.nextInt(30) == 0 ? small(-402, 402) : random.nextInt(20) == 0 ? small(-3, 0) : small(0, largest);
    }

    private long coordinate() {
        double d = random.nextInt(drawsFew ? 2 : 12) == 0 ? (random.nextInt(3) == 0 ? 0.0 : -0.0)
            : random.nextInt(6) == 0 ? DOUBLES[random.nextInt(DOUBLES.length)]
            : random.nextInt(3) == 0 ? small(-12, 12) / 4.0 : random.nextDouble() * 10 - 3;
        return Double.doubleToRawLongBits(d);
    }

    private long few(int kind) {
        double d = FEW[random.nextInt(FEW.length)];
        return kind == 6 ? Double.doubleToRawLongBits(d) : kind == 5 ? Float.floatToRawIntBits((float) d) : (long) d;
    }

    private long bits() {
        switch (random.nextInt(8)) {
            case 0: return random.nextLong();
            case 1: return Float.floatToRawIntBits(FLOATS[random.nextInt(FLOATS.length)]);
            case 2: return random.nextInt();
            case 3: return WHOLES[random.nextInt(WHOLES.length)];
            case 4: return Double.doubleToRawLongBits((random.nextInt(2001) - 1000) / 8.0);
            case 5: return Float.floatToRawIntBits((random.nextInt(2001) - 1000) / 8f);
            case 6: return Double.doubleToRawLongBits(random.nextGaussian() * 1000);
            default: return Double.doubleToRawLongBits(DOUBLES[random.nextInt(DOUBLES.length)]);
        }
    }
}
