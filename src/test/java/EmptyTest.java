/** What there is ahead of all, and where there is nothing: BANDS, ROWS, TABLES, LINES and JOBS of none, grids without a line. */
public final class EmptyTest {
    private static final double NAN = Double.NaN;
    private static final int TARGET = 1;

    public static void main(String[] args) {
        atFirst();
        aheadOfAnyJob();
        for (int kind = 0; kind < 8; kind++) {
            bandOfNone(kind);
        }
        for (int kind = 0; kind < 7; kind++) {
            numbersOfNone(kind);
            statOfNone(kind);
        }
        marksOfNone();
        rowOfNone();
        tableOfNone();
        lineOfNone();
        voidFitsEverywhere();
        noWholeLine();
        jobWithoutStep();
        emptyPlaces();
        Due.end("EmptyTest");
    }

    /** "All places are EMPTY, there is no STEP", told "0 at first". */
    private static void atFirst() {
        Calls c = new Calls();
        Due.is("2 told at first", c.ask("told"), 0);
        Due.is("35 gone at first", c.ask("gone"), 0);
        for (int p = 0; p < 12; p++) {
            Due.is("1 EMPTY", c.ask("holds", p), -1);
            for (int kind = 0; kind < 8; kind++) {
                c.no("1 EMPTY", Due.MISSING, "size", p, kind);
            }
        }
        c.answers("1 no STEP", 1, "step", 7, 0, 0, 0);
    }

    /** done "(0 ahead of any)", total "0 .. ahead of any": also behind STEPS that wait. */
    private static void aheadOfAnyJob() {
        Calls c = new Calls();
        for (int time = 0; time < 2; time++) {
            c.done("33 ahead of any", 0, 0, 0, 0, 0, 0, 0);
            Due.is("34 ahead of any", c.ask("total"), 0);
            Due.is("33 another what", c.ask("done", 7), -1);
            c.steps(new int[] {0, 1}, new int[] {5, 0, 3, 0}, new int[] {3});
        }
    }

    private static void bandOfNone(int kind) {
        Calls c = new Calls();
        c.yes("4 none", "band", 0, kind, 0);
        Due.is("3 none", c.ask("holds", 0), kind);
        c.answers("10 none", 0, "size", 0, kind);
        c.no("11 none", Due.OUTSIDE, "get", 0, kind, 0);
        c.no("12 none", Due.OUTSIDE, "set", 0, kind, 0, 1);
        c.yes("18 none", "move", 0, 0, 0, 0, 0);
        c.no("18 one of none", Due.OUTSIDE, "move", 0, 0, 0, 0, 1);
        for (int to = 0; to < 8; to++) {
            c.yes("23 none", "turn", to, 0, 1);
            c.went("23 none", 0);
            c.cells("23 none", 1, to);
        }
        c.ask("band", 2, kind, 3);
        c.yes("18 none to some", "move", 0, 0, 2, 3, 0);
        c.yes("18 none of some to none", "move", 2, 1, 0, 0, 0);
        c.ask("step", 4, 0, 2, 0);
        c.yes("32 MOVE of none", "job");
        c.ask("step", 6, 0, 1, 0);
        c.no("32 PUT in none", Due.OUTSIDE, "job");
        c.ask("step", 5, 0, kind, 0);
        c.no("32 ADD of none", Due.OUTSIDE, "job");
    }

    private static void numbersOfNone(int kind) {
        Calls c = new Calls();
        c.ask("band", 0, kind, 0);
        c.ask("scale", 1, 0, 0);
        c.ask("band", 2, Due.MARK, 0);
        int wider = Math.max(kind, Due.INT);
        for (int op = 0; op < 7; op++) {
            c.yes("19 none", "reckon", op, 0, 0, 3);
            c.went("19 none", 0);
            c.cells("19 none", 3, wider);
        }
        for (int op = 0; op < 6; op++) {
            c.yes("20 none", "compare", op, 0, 0, 3);
            c.cells("20 none", 3, Due.MARK);
        }
        for (int op = 0; op < 12; op++) {
            boolean isFloat = kind == Due.FLOAT;
            c.yes("25 none", "math", op, 0, 3);
            c.went("25 none", 0);
            c.cells("25 none", 3, op == 9 ? Due.INT : op == 11 ? (isFloat ? Due.INT : Due.LONG) : isFloat ? Due.FLOAT : Due.DOUBLE);
        }
        c.yes("22 none", "choose", 2, 0, 0, 3);
        c.cells("22 none", 3, wider);
        c.yes("26 none", "fuse", 0, 0, 0, 3);
        c.cells("26 none", 3, kind == Due.FLOAT ? Due.FLOAT : Due.DOUBLE);
        c.yes("27 none", "apply", 0, 1, 3);
        c.cells("27 none", 3, Due.DOUBLE);
        if (kind >= Due.INT) {
            c.yes("24 none", "bits", 0, 3);
            c.cells("24 none", 3, kind < Due.FLOAT ? kind + 2 : kind - 2);
        }
        if (kind == Due.INT) {
            c.yes("9 none", "keep", 0, 3);
            c.cells("9 none", 3, Due.INT);
        }
    }

    /** "(MIN, MAX from the first on; NaN without cells)", the sum of none 0, by how many 0 / 0. */
    private static void statOfNone(int kind) {
        Calls c = new Calls();
        c.ask("band", 0, kind, 0);
        double[] due = {NAN, NAN, 0.0, NAN, 0.0, 0.0};
        for (int op = 0; op < 6; op++) {
            c.answers("28 none", Due.bits(due[op]), "stat", op, 0);
            c.went("28 none", 0);
        }
    }

    private static void marksOfNone() {
        Calls c = new Calls();
        c.ask("band", 0, Due.MARK, 0);
        c.ask("band", 1, Due.MARK, 2);
        for (int op = 0; op < 4; op++) {
            c.yes("21 none", "mark", op, 0, 1, 2);
            c.went("21 none", 0);
            c.cells("21 none", 2, Due.MARK);
        }
        c.ask("band", 3, Due.LONG, 2);
        c.ask("band", 4, Due.BYTE, 0);
        c.yes("22 none of some", "choose", 0, 3, 4, 2);
        c.cells("22 none of some", 2, Due.LONG);
        c.no("22 some of none", Due.OUTSIDE, "choose", 1, 3, 4, 2);
        c.went("22 some of none", 1);
    }

    private static void rowOfNone() {
        for (int sort = 0; sort < 4; sort++) {
            Calls c = new Calls();
            c.yes("5 none", "row", 0, sort, 0);
            Due.is("3 none", c.ask("holds", 0), Stock.ROW + sort);
            for (int s = 0; s < 4; s++) {
                c.no("13 none", Due.OUTSIDE, "feature", 0, 0, s, 5);
            }
            c.no("14 none", Due.OUTSIDE, "about", 0, 0, 0);
            c.yes("18 none", "move", 0, 0, 0, 0, 0);
            c.no("18 one of none", Due.OUTSIDE, "move", 0, 0, 0, 0, 1);
            c.ask("table", 1, 0, 3);
            c.yes("18 none to a TABLE of none", "move", 0, 0, 1, 0, 0);
            c.yes("18 no LINE to a ROW of none", "move", 1, 0, 0, 0, 0);
        }
    }

    private static void tableOfNone() {
        int[] lengths = {0, 1, 20, 21};
        for (int m : lengths) {
            Calls c = new Calls();
            c.yes("6 none", "table", 0, 0, m);
            Due.is("3 none", c.ask("holds", 0), Stock.TABLE);
            c.no("15 none", Due.OUTSIDE, "entry", 0, 0, 0);
            c.no("16 none", Due.OUTSIDE, "enter", 0, 0, 0, 5);
            c.no("17 none", Due.OUTSIDE, "line", 0, 0, 1);
            c.no("17 none, VOID", Due.OUTSIDE, "line", 0, 0, -1);
            c.yes("18 none", "move", 0, 0, 0, 0, 0);
            c.no("18 one of none", Due.OUTSIDE, "move", 0, 0, 0, 0, 1);
        }
    }

    private static void lineOfNone() {
        Calls c = new Calls();
        c.yes("6 LINES of none", "table", 0, 2, 0);
        c.no("15 LINES of none", Due.OUTSIDE, "entry", 0, 0, 0);
        c.no("16 LINES of none", Due.OUTSIDE, "enter", 0, 1, 0, 5);
        c.yes("18 a LINE of none is moved", "move", 0, 0, 0, 1, 1);
        c.yes("17 a LINE of none", "line", 0, 0, 0);
        c.no("15 a LINE of none is not VOID", Due.OUTSIDE, "entry", 0, 0, 0);
        c.yes("17 VOID", "line", 0, 0, -1);
        c.no("15 VOID is not a LINE of none", Due.MISSING, "entry", 0, 0, 0);
        c.yes("17 a LINE of none again", "line", 0, 0, 0);
        c.no("15 a LINE of none again", Due.OUTSIDE, "entry", 0, 0, 0);
        c.ask("row", 1, 0, 1);
        c.no("18 a LINE of none is UNFIT for a ROW", Due.UNFIT, "move", 0, 0, 1, 0, 1);
    }

    /** "what is VOID fits everywhere": from each ROW and TABLE to each other, over what stands there. */
    private static void voidFitsEverywhere() {
        for (int from = Stock.ROW; from <= Stock.TABLE; from++) {
            for (int to = Stock.ROW; to <= Stock.TABLE; to++) {
                Calls c = new Calls();
                if (from == Stock.TABLE) {
                    c.ask("table", 0, 2, 21);
                } else {
                    c.ask("row", 0, from - Stock.ROW, 2);
                }
                Stock.put(c, TARGET, to, 2);
                c.yes("18 VOID", "move", 0, 0, TARGET, 0, 2);
                for (int i = 0; i < 2; i++) {
                    if (to == Stock.TABLE) {
                        c.no("18 VOID", Due.MISSING, "entry", TARGET, i, 0);
                    } else {
                        c.no("18 VOID", Due.MISSING, "about", TARGET, i, 0);
                    }
                }
            }
        }
    }

    /** "there are h lines (as many as are whole ..)": of fewer cells than w there is none, and all READERS give NaN. */
    private static void noWholeLine() {
        double[] at = {0.0, -0.0, 0.5, -0.5, -1, 1, 2, 5, -999999999, 999999999};
        int[][] sizes = {{0, 1}, {0, 400}, {2, 3}, {1, 2}, {399, 400}};
        for (int[] size : sizes) {
            for (int reader = 0; reader < 5; reader++) {
                Calls c = new Calls();
                c.ask("band", 0, Due.DOUBLE, size[0]);
                for (double x : at) {
                    for (double y : at) {
                        c.answers("29 h 0", Due.bits(NAN), "sample", reader, 0, size[1], Due.bits(x), Due.bits(y));
                    }
                }
            }
        }
    }

    private static void jobWithoutStep() {
        Calls c = new Calls();
        for (int time = 0; time < 2; time++) {
            c.yes("32 without a STEP", "job");
            c.went("32 without a STEP", 0);
            c.done("33 without a STEP", 0, 0, 0, 0, 0, 0, -1);
            Due.is("34 without a STEP", c.ask("total"), 0);
        }
        c.give(0, Due.INT, 5);
        c.steps(new int[] {0, 3}, new int[] {5, 0, 3, 0}, new int[] {2}, new int[] {7}, new int[] {3}, new int[] {1});
        c.yes("32 a JOB", "job");
        c.done("33 a JOB", 1, 1, 1, Due.RAISED, 4, 1, -1);
        Due.is("34 a JOB", c.ask("total"), 5);
        c.yes("32 without a STEP again", "job");
        c.done("33 without a STEP again", 0, 0, 0, 0, 0, 0, -1);
        Due.is("34 without a STEP again", c.ask("total"), 0);
        c.ask("step", 3, 0, 0, 0);
        c.no("32 none", Due.REFUSED, "job");
        c.yes("32 without a STEP behind one that is none", "job");
        c.done("33 without a STEP behind one that is none", 0, 0, 0, 0, 0, 0, -1);
    }

    /** To be EMPTY hinders neither clear, nor a lock, nor SWAP. */
    private static void emptyPlaces() {
        Calls c = new Calls();
        for (int p = 0; p < 12; p++) {
            c.yes("8 an EMPTY place", "clear", p);
            c.steps(new int[] {0, p}, new int[] {1});
        }
        c.steps(new int[] {8, 0, 1}, new int[] {8, 2, 2});
        c.yes("32 EMPTY places", "job");
        c.done("33 EMPTY places", 12, 12, 0, 0, 26, 1, -1);
        c.give(0, Due.BYTE, 4);
        c.ask("step", 8, 1, 0, 0);
        c.yes("32 SWAP with an EMPTY place", "job");
        Due.is("3 EMPTY now", c.ask("holds", 0), -1);
        c.cells("32 SWAP with an EMPTY place", 1, Due.BYTE, 4);
        c.yes("8 clear", "clear", 1);
        c.no("8 EMPTY", Due.MISSING, "size", 1, Due.BYTE);
    }
}
