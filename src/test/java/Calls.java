/**
 * A house whose calls are made by name, so that tests can go through all acts alike. The calls are counted, as the document
 * promises no answer behind the 512th.
 */
final class Calls {
    static final String[] NAMES = {
        "told", "holds", "band", "row", "table", "scale", "clear", "keep", "size", "get", "set", "feature", "about",
        "entry", "enter", "line", "move", "reckon", "compare", "mark", "choose", "turn", "bits", "math", "fuse", "apply",
        "stat", "sample", "stepOf", "step", "job", "done", "total", "gone"};
    static final int MOST = 512;

    private static final String ANSWER_NONE = " size get about entry stat sample stepOf step ";

    private final LayerHouse house = new LayerHouse();
    private int count;

    long ask(String name, long... a) {
        count++;
        if (count == MOST + 1) {
            Due.is("calls of one object, at " + name, count, MOST);
        }
        return call(house, name, a);
    }

    /** An act without a FAULT that answers true. */
    void yes(String why, String name, long... a) {
        answers(why, 1, name, a);
    }

    /** An act without a FAULT, with its answer. */
    void answers(String why, long want, String name, long... a) {
        String call = why + ": " + text(name, a);
        Due.is(call, ask(name, a), want);
        Due.is(call + " told", ask("told"), 0);
    }

    /** An act with a FAULT. */
    void no(String why, int fault, String name, long... a) {
        String call = why + ": " + text(name, a);
        Due.is(call, ask(name, a), ANSWER_NONE.contains(" " + name + " ") ? LayerHouse.NONE : 0);
        Due.is(call + " told", ask("told"), fault);
    }

    void went(String why, long cells) {
        Due.is(why + ": gone", ask("gone"), cells);
    }

    /** done(0) .. done(6): SCOPES begun, LEFT, CAUGHT, the last kind, STEPS done, most open, where it was none. */
    void done(String why, int... due) {
        for (int what = 0; what < 7; what++) {
            Due.is(why + ": done " + what, ask("done", what), due[what]);
        }
    }

    void cells(String why, int p, int kind, long... cells) {
        Due.is(why + ": kind", ask("holds", p), kind);
        Due.is(why + ": size", ask("size", p, kind), cells.length);
        for (int i = 0; i < cells.length; i++) {
            Due.is(why + ": cell " + i, ask("get", p, kind, i), cells[i]);
        }
    }

    /** A BAND with these cells by BITS. */
    void give(int p, int kind, long... cells) {
        ask("band", p, kind, cells.length);
        for (int i = 0; i < cells.length; i++) {
            ask("set", p, kind, i, cells[i]);
        }
    }

    void giveDoubles(int p, double... cells) {
        give(p, Due.DOUBLE, bitsOf(cells));
    }

    void giveFloats(int p, float... cells) {
        give(p, Due.FLOAT, bitsOf(cells));
    }

    void doubles(String why, int p, double... cells) {
        cells(why, p, Due.DOUBLE, bitsOf(cells));
    }

    void floats(String why, int p, float... cells) {
        cells(why, p, Due.FLOAT, bitsOf(cells));
    }

    private static long[] bitsOf(double[] cells) {
        long[] bits = new long[cells.length];
        for (int i = 0; i < cells.length; i++) {
            bits[i] = Due.bits(cells[i]);
        }
        return bits;
    }

    private static long[] bitsOf(float[] cells) {
        long[] bits = new long[cells.length];
        for (int i = 0; i < cells.length; i++) {
            bits[i] = Due.bits(cells[i]);
        }
        return bits;
    }

    /** All STEPS, each of its code and as many of a, b, c as are not 0. */
    void steps(int[]... steps) {
        for (int[] s : steps) {
            ask("step", s[0], s.length > 1 ? s[1] : 0, s.length > 2 ? s[2] : 0, s.length > 3 ? s[3] : 0);
        }
    }

    /** What all places hold, as far as calls that change nothing can tell. */
    String places() {
        StringBuilder text = new StringBuilder();
        for (int p = 0; p < 12; p++) {
            long tag = ask("holds", p);
            text.append(tag).append('[');
            if (tag >= 0 && tag < Stock.ROW) {
                tellBand(text, p, tag);
            } else if (tag >= Stock.ROW && tag < Stock.TABLE) {
                tellRow(text, p);
            } else if (tag == Stock.TABLE) {
                tellTable(text, p);
            }
            text.append("] ");
        }
        return text.toString();
    }

    private void tellBand(StringBuilder text, int p, long kind) {
        long n = ask("size", p, kind);
        for (int i = 0; i < n; i++) {
            text.append(ask("get", p, kind, i)).append(' ');
        }
    }

    /** How many places a ROW or TABLE has: as many as can be moved to where they are. */
    private int lengthOf(int p) {
        int n = 0;
        while (n < 40 && ask("move", p, 0, p, 0, n + 1) == 1) {
            n++;
        }
        return n;
    }

    private void tellRow(StringBuilder text, int p) {
        int n = lengthOf(p);
        for (int i = 0; i < n; i++) {
            long sort = ask("about", p, i, 0);
            text.append(ask("told") == 0 ? sort + "/" + ask("about", p, i, 1) : "void").append(' ');
        }
    }

    private void tellTable(StringBuilder text, int p) {
        int n = lengthOf(p);
        for (int i = 0; i < n; i++) {
            long number = ask("entry", p, i, 0);
            long told = ask("told");
            for (int j = 1; j <= 20 && told == 0; j++) {
                text.append(number).append(',');
                number = ask("entry", p, i, j);
                told = ask("told");
            }
            text.append(told == Due.MISSING ? "void " : "; ");
        }
    }

    static String text(String name, long... a) {
        StringBuilder text = new StringBuilder(name).append('(');
        for (int k = 0; k < a.length; k++) {
            text.append(k == 0 ? "" : ", ").append(a[k]);
        }
        return text.append(')').toString();
    }

    private static long bool(boolean b) {
        return b ? 1 : 0;
    }

    /** A boolean counts 1 or 0. */
    static long call(LayerHouse h, String name, long... a) {
        int[] i = new int[5];
        for (int k = 0; k < a.length; k++) {
            i[k] = (int) a[k];
        }
        switch (name) {
            case "told": return h.told();
            case "holds": return h.holds(i[0]);
            case "band": return bool(h.band(i[0], i[1], i[2]));
            case "row": return bool(h.row(i[0], i[1], i[2]));
            case "table": return bool(h.table(i[0], i[1], i[2]));
            case "scale": return bool(h.scale(i[0], a[1], a[2]));
            case "clear": return bool(h.clear(i[0]));
            case "keep": return bool(h.keep(i[0], i[1]));
            case "size": return h.size(i[0], i[1]);
            case "get": return h.get(i[0], i[1], i[2]);
            case "set": return bool(h.set(i[0], i[1], i[2], a[3]));
            case "feature": return bool(h.feature(i[0], i[1], i[2], i[3]));
            case "about": return h.about(i[0], i[1], i[2]);
            case "entry": return h.entry(i[0], i[1], i[2]);
            case "enter": return bool(h.enter(i[0], i[1], i[2], i[3]));
            case "line": return bool(h.line(i[0], i[1], i[2]));
            case "move": return bool(h.move(i[0], i[1], i[2], i[3], i[4]));
            case "reckon": return bool(h.reckon(i[0], i[1], i[2], i[3]));
            case "compare": return bool(h.compare(i[0], i[1], i[2], i[3]));
            case "mark": return bool(h.mark(i[0], i[1], i[2], i[3]));
            case "choose": return bool(h.choose(i[0], i[1], i[2], i[3]));
            case "turn": return bool(h.turn(i[0], i[1], i[2]));
            case "bits": return bool(h.bits(i[0], i[1]));
            case "math": return bool(h.math(i[0], i[1], i[2]));
            case "fuse": return bool(h.fuse(i[0], i[1], i[2], i[3]));
            case "apply": return bool(h.apply(i[0], i[1], i[2]));
            case "stat": return h.stat(i[0], i[1]);
            case "sample": return h.sample(i[0], i[1], i[2], a[3], a[4]);
            case "stepOf": return h.stepOf(i[0], i[1]);
            case "step": return h.step(i[0], i[1], i[2], i[3]);
            case "job": return bool(h.job());
            case "done": return h.done(i[0]);
            case "total": return h.total();
            case "gone": return h.gone();
            default: throw new IllegalArgumentException(name);
        }
    }
}
