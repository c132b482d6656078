/** As much as there may be: 400 cells, 40 places of a ROW, 20 LINES of 20 numbers, 60 STEPS, 8 deep, 512 calls. */
public final class FullTest {
    private static final int OPEN = 0;
    private static final int CLOSE = 1;
    private static final int GUARD = 2;
    private static final int END = 3;
    private static final int PUT = 6;
    private static final int RAISE = 7;
    private static final int SWAP = 8;

    public static void main(String[] args) {
        for (int kind = 0; kind < 8; kind++) {
            fullBand(kind);
        }
        for (int kind = 0; kind < 7; kind++) {
            fullNumbers(kind);
        }
        fullMarks();
        fullGrid();
        for (int sort = 0; sort < 4; sort++) {
            fullRow(sort);
        }
        fullTable();
        fullTableMoved();
        allPlaces();
        fullJob();
        fullJobThatIsNone();
        for (int pattern = 0; pattern < 256; pattern++) {
            deep(pattern);
            tooDeep(pattern);
        }
        deepAgain();
        faultsEightDeep();
        lastCall();
        Due.end("FullTest");
    }

    /** A BAND of 400 cells of which the first and the last are told apart from all others. */
    private static Calls withFullBand(int kind) {
        Calls c = new Calls();
        c.yes("4 full", "band", 0, kind, 400);
        c.ask("set", 0, kind, 0, Stock.bitsOf(kind, 3));
        c.ask("set", 0, kind, 399, Stock.bitsOf(kind, 5));
        return c;
    }

    private static void fullBand(int kind) {
        Calls c = withFullBand(kind);
        long first = Stock.bitsOf(kind, 3);
        long last = Stock.bitsOf(kind, 5);
        c.answers("10 full", 400, "size", 0, kind);
        c.answers("11 full", first, "get", 0, kind, 0);
        c.answers("11 full, all 0", 0, "get", 0, kind, 398);
        c.answers("11 full", last, "get", 0, kind, 399);
        c.no("11 full", Due.OUTSIDE, "get", 0, kind, 400);
        c.ask("band", 1, kind, 400);
        c.yes("18 full", "move", 0, 0, 1, 0, 400);
        c.answers("18 full", last, "get", 1, kind, 399);
        c.no("18 one too many", Due.OUTSIDE, "move", 0, 0, 1, 0, 401);
        c.yes("18 full, to itself", "move", 0, 0, 0, 1, 399);
        c.answers("18 full, to itself", first, "get", 0, kind, 1);
        c.answers("18 full, to itself", 0, "get", 0, kind, 399);
        c.no("4 one too many", Due.REFUSED, "band", 0, kind, 401);
        for (int to = 0; to < 8; to++) {
            c.yes("23 full", "turn", to, 1, 2);
            c.went("23 full", 400);
            c.answers("23 full", 400, "size", 2, to);
            c.answers("23 full", Stock.bitsOf(to, kind == Due.MARK ? 1 : 5), "get", 2, to, 399);
        }
        if (kind == Due.INT) {
            c.yes("9 full", "keep", 1, 3);
            c.answers("9 full", 400, "size", 3, kind);
            c.answers("9 full", last, "get", 3, kind, 399);
        }
        if (kind >= Due.INT && kind < Due.MARK) {
            c.yes("24 full", "bits", 1, 3);
            c.went("24 full", 400);
            c.answers("24 full", last, "get", 3, kind < Due.FLOAT ? kind + 2 : kind - 2, 399);
        }
    }

    private static void fullNumbers(int kind) {
        Calls c = withFullBand(kind);
        int wider = Math.max(kind, Due.INT);
        c.yes("19 full", "reckon", 0, 0, 0, 1);
        c.went("19 full", 400);
        c.answers("19 full", Stock.bitsOf(wider, 10), "get", 1, wider, 399);
        c.yes("20 full", "compare", 2, 1, 0, 2);
        c.went("20 full", 400);
        c.answers("20 full", 0, "get", 2, Due.MARK, 398);
        c.answers("20 full", 1, "get", 2, Due.MARK, 399);
        c.yes("22 full", "choose", 2, 1, 0, 3);
        c.went("22 full", 400);
        c.answers("22 full", Stock.bitsOf(wider, 10), "get", 3, wider, 399);
        int real = kind == Due.FLOAT ? Due.FLOAT : Due.DOUBLE;
        c.yes("25 full", "math", 10, 0, 3);
        c.went("25 full", 400);
        c.answers("25 full", Stock.bitsOf(real, 40), "get", 3, real, 399);
        c.yes("26 full", "fuse", 0, 0, 0, 3);
        c.went("26 full", 400);
        c.answers("26 full", Stock.bitsOf(real, 30), "get", 3, real, 399);
        c.ask("scale", 4, Due.bits(2.0), Due.bits(1.0));
        c.yes("27 full", "apply", 0, 4, 3);
        c.went("27 full", 400);
        c.answers("27 full", Due.bits(11.0), "get", 3, Due.DOUBLE, 399);
        double[] due = {0, 5, 8, 8 / 400.0, 0, 8};
        for (int op = 0; op < 6; op++) {
            c.answers("28 full", Due.bits(due[op]), "stat", op, 0);
            c.went("28 full", 400);
        }
    }

    private static void fullMarks() {
        Calls c = withFullBand(Due.MARK);
        c.ask("band", 1, Due.MARK, 400);
        long[] due = {0, 1, 1, 0};
        for (int op = 0; op < 4; op++) {
            c.yes("21 full", "mark", op, 0, 1, 2);
            c.went("21 full", 400);
            c.answers("21 full", 400, "size", 2, Due.MARK);
            c.answers("21 full", due[op], "get", 2, Due.MARK, 399);
        }
    }

    /** Lines of 1, 20 and 400 cells: the last cell is that of the last line. */
    private static void fullGrid() {
        Calls c = withFullBand(Due.INT);
        int[] widths = {1, 20, 400};
        for (int w : widths) {
            for (int reader = 0; reader < 5; reader++) {
                c.answers("29 full", Due.bits(5.0), "sample", reader, 0, w, Due.bits(w - 1.0), Due.bits(400.0 / w - 1));
                c.answers("29 full", Due.bits(3.0), "sample", reader, 0, w, 0, 0);
            }
            c.answers("29 beyond", Due.bits(Double.NaN), "sample", 0, 0, w, Due.bits((double) w), Due.bits(400.0 / w - 1));
            c.answers("29 beyond", Due.bits(Double.NaN), "sample", 0, 0, w, Due.bits(w - 1.0), Due.bits(400.0 / w));
        }
        c.answers("29 21 lines of 19, one cell left over", Due.bits(0.0), "sample", 1, 0, 19, Due.bits(18.0), Due.bits(99.0));
        for (int w : widths) {
            int[] steps = {1, 1, w, 2 * w, 1};
            for (int reader = 0; reader < 5; reader++) {
                c.answers("30 full", steps[reader], "stepOf", reader, w);
            }
        }
    }

    private static void fullRow(int sort) {
        Calls c = new Calls();
        c.yes("5 full", "row", 0, sort, 40);
        int fitting = sort == 0 ? 3 : sort;
        for (int i = 0; i < 40; i++) {
            c.yes("13 full", "feature", 0, i, fitting, 100 + i);
        }
        c.no("13 full", Due.OUTSIDE, "feature", 0, 40, fitting, 5);
        c.ask("row", 1, sort, 40);
        c.yes("18 full", "move", 0, 0, 1, 0, 40);
        c.no("18 one too many", Due.OUTSIDE, "move", 0, 0, 1, 0, 41);
        for (int i = 0; i < 40; i++) {
            c.answers("18 full", 100 + i, "about", 1, i, 1);
        }
        c.yes("18 full, to itself", "move", 0, 0, 0, 1, 39);
        for (int i = 0; i < 40; i++) {
            c.answers("18 full, to itself", 100 + Math.max(i - 1, 0), "about", 0, i, 1);
        }
        c.no("5 one too many", Due.REFUSED, "row", 0, sort, 41);
        c.answers("5 one too many", 138, "about", 0, 39, 1);
    }

    private static void fullTable() {
        Calls c = new Calls();
        c.yes("6 full", "table", 0, 20, 20);
        for (int i = 0; i < 20; i++) {
            c.yes("16 full", "enter", 0, i, 19, 100 + i);
            c.yes("16 full", "enter", 0, i, 0, 200 + i);
        }
        for (int i = 0; i < 20; i++) {
            c.answers("15 full", 100 + i, "entry", 0, i, 19);
            c.answers("15 full", 200 + i, "entry", 0, i, 0);
            c.answers("15 full, all 0", 0, "entry", 0, i, 18);
            c.no("15 full", Due.OUTSIDE, "entry", 0, i, 20);
        }
        c.no("15 full", Due.OUTSIDE, "entry", 0, 20, 0);
        c.no("6 one too many", Due.REFUSED, "table", 0, 21, 20);
        c.no("6 one too many", Due.REFUSED, "table", 0, 20, 22);
        c.no("17 one too many", Due.REFUSED, "line", 0, 0, 21);
        c.answers("17 one too many", 200, "entry", 0, 0, 0);
        c.yes("17 full", "line", 0, 0, 20);
        c.answers("17 full", 0, "entry", 0, 0, 19);
        c.yes("6 of VOID ones when m is 21", "table", 0, 20, 21);
        c.no("6 of VOID ones when m is 21", Due.MISSING, "entry", 0, 0, 0);
        c.no("6 of VOID ones when m is 21", Due.MISSING, "entry", 0, 19, 0);
    }

    private static void fullTableMoved() {
        Calls c = new Calls();
        c.ask("table", 0, 20, 20);
        c.ask("table", 1, 20, 21);
        for (int i = 0; i < 20; i++) {
            c.ask("enter", 0, i, 19, 100 + i);
        }
        c.yes("18 full", "move", 0, 0, 1, 0, 20);
        c.no("18 one too many", Due.OUTSIDE, "move", 0, 0, 1, 0, 21);
        for (int i = 0; i < 20; i++) {
            c.answers("18 full", 100 + i, "entry", 1, i, 19);
            c.ask("enter", 1, i, 19, 300 + i);
            c.answers("18 the same ones then in both", 300 + i, "entry", 0, i, 19);
        }
    }

    private static void allPlaces() {
        Calls c = new Calls();
        for (int p = 0; p < 12; p++) {
            c.ask("band", p, Due.LONG, 400);
            c.ask("set", p, Due.LONG, 399, p);
        }
        for (int p = 0; p < 12; p++) {
            c.answers("4 all places are full", p, "get", p, Due.LONG, 399);
        }
    }

    /** "REFUSED: .. there are 60": more are not, and those that are stay as they are. */
    private static void fullJob() {
        Calls c = new Calls();
        c.give(0, Due.INT, 0, 0, 0);
        for (int k = 1; k <= 60; k++) {
            c.answers("31", k, "step", PUT, 0, k, k % 3);
        }
        for (int code = 0; code < 9; code++) {
            c.no("31 there are 60", Due.REFUSED, "step", code, 0, 99, 0);
        }
        c.cells("32 nothing is done ahead of job()", 0, Due.INT, 0, 0, 0);
        c.yes("32 60 STEPS", "job");
        c.done("33 60 STEPS", 0, 0, 0, 0, 60, 0, -1);
        c.cells("32 60 STEPS", 0, Due.INT, 60, 58, 59);
        for (int k = 1; k <= 60; k++) {
            c.answers("31 there is no STEP then", k, "step", RAISE, 0, 0, 0);
        }
        c.no("31 there are 60 again", Due.REFUSED, "step", RAISE, 0, 0, 0);
        c.no("32 60 times RAISE", Due.RAISED, "job");
        c.done("33 60 times RAISE", 0, 0, 0, 0, 0, 0, -1);
        c.answers("31 there is no STEP then", 1, "step", RAISE, 0, 0, 0);
    }

    private static void fullJobThatIsNone() {
        Calls c = new Calls();
        for (int k = 1; k <= 59; k++) {
            c.ask("step", SWAP, 0, 1, 0);
        }
        c.answers("31", 60, "step", OPEN, 0, 0, 0);
        c.no("31 nor a CLOSE any more", Due.REFUSED, "step", CLOSE, 0, 0, 0);
        c.no("32 all must be ended", Due.REFUSED, "job");
        c.done("33 their number at the end", 0, 0, 0, 0, 0, 0, 60);
        for (int k = 1; k <= 59; k++) {
            c.ask("step", SWAP, 0, 1, 0);
        }
        c.answers("31 no STEP was left", 60, "step", END, 0, 0, 0);
        c.no("32 an END of none", Due.REFUSED, "job");
        c.done("33 the last STEP", 0, 0, 0, 0, 0, 0, 59);
    }

    private static boolean isScope(int pattern, int depth) {
        return (pattern >> depth & 1) == 1;
    }

    /** "SCOPES and GUARDS lie in one another, at most 8 deep": the bits of the pattern tell which of them are SCOPES. */
    private static void begin(Calls c, int pattern, int depth) {
        for (int k = 0; k < depth; k++) {
            c.ask("step", isScope(pattern, k) ? OPEN : GUARD, k, 0, 0);
        }
    }

    private static void end(Calls c, int pattern, int depth) {
        for (int k = depth - 1; k >= 0; k--) {
            c.ask("step", isScope(pattern, k) ? CLOSE : END, 0, 0, 0);
        }
    }

    private static void deep(int pattern) {
        Calls c = new Calls();
        begin(c, pattern, 8);
        end(c, pattern, 8);
        int scopes = Integer.bitCount(pattern);
        c.yes("32 8 deep, " + pattern, "job");
        c.done("33 8 deep, " + pattern, scopes, scopes, 0, 0, 16, scopes, -1);
    }

    private static void tooDeep(int pattern) {
        for (int ninth = 0; ninth < 2; ninth++) {
            Calls c = new Calls();
            begin(c, pattern | ninth << 8, 9);
            end(c, pattern | ninth << 8, 9);
            c.no("32 9 deep, " + pattern, Due.REFUSED, "job");
            c.done("33 9 deep, " + pattern, 0, 0, 0, 0, 0, 0, 8);
        }
    }

    /** 8 deep, out of it and 8 deep again; the ninth is told by its own number. */
    private static void deepAgain() {
        Calls c = new Calls();
        for (int time = 0; time < 3; time++) {
            begin(c, 0x5a, 8);
            end(c, 0x5a, 8);
        }
        c.yes("32 8 deep again", "job");
        c.done("33 8 deep again", 12, 12, 0, 0, 48, 4, -1);
        begin(c, 0xff, 8);
        end(c, 0xff, 4);
        c.ask("step", SWAP, 0, 1, 0);
        begin(c, 0, 5);
        c.no("32 9 deep later", Due.REFUSED, "job");
        c.done("33 9 deep later", 0, 0, 0, 0, 0, 0, 17);
    }

    /** A FAULT in the eighth leaves all SCOPES up to the innermost GUARD, or all. */
    private static void faultsEightDeep() {
        for (int guard = 0; guard < 8; guard++) {
            Calls c = new Calls();
            int pattern = 0xff & ~(1 << guard);
            begin(c, pattern, 8);
            c.ask("step", RAISE, 0, 0, 0);
            end(c, pattern, 8);
            c.yes("32 RAISE 8 deep", "job");
            c.done("33 RAISE 8 deep", 7, 7, 1, Due.RAISED, 8 + guard, 7, -1);
        }
        Calls c = new Calls();
        begin(c, 0xff, 8);
        c.ask("step", RAISE, 0, 0, 0);
        end(c, 0xff, 8);
        c.no("32 RAISE 8 deep without a GUARD", Due.RAISED, "job");
        c.done("33 RAISE 8 deep without a GUARD", 8, 8, 0, 0, 8, 8, -1);
        begin(c, 0xff, 8);
        end(c, 0xff, 8);
        c.yes("32 all are unlocked", "job");
        c.done("33 all are unlocked", 8, 8, 0, 0, 16, 8, -1);
    }

    /** "An object is used for at most 512 calls after it has been made". */
    private static void lastCall() {
        Calls c = new Calls();
        c.ask("band", 0, Due.INT, 400);
        for (int i = 0; i < 400; i++) {
            c.ask("set", 0, Due.INT, i, i);
        }
        for (int call = 402; call < Calls.MOST; call++) {
            c.ask("reckon", 0, 0, 0, 1 + call % 11);
        }
        Due.is("11 the 512th call", c.ask("get", 1, Due.INT, 399), 798);
    }
}
