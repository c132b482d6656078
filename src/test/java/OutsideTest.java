/** "3 OUTSIDE: there is no such cell. 4 NEGATIVE: fewer than none are wanted": cells, places and LINES at and beyond all ends. */
public final class OutsideTest {
    private static final int LEAST = Integer.MIN_VALUE;
    private static final int MOST = Integer.MAX_VALUE;

    public static void main(String[] args) {
        negative();
        for (int kind = 0; kind < 8; kind++) {
            cellsOfBand(kind, 0);
            cellsOfBand(kind, 1);
            cellsOfBand(kind, 400);
        }
        for (int sort = 0; sort < 4; sort++) {
            placesOfRow(sort, 0);
            placesOfRow(sort, 1);
            placesOfRow(sort, 40);
        }
        linesOfTable(0);
        linesOfTable(1);
        linesOfTable(20);
        numbersOfLine(0);
        numbersOfLine(1);
        numbersOfLine(20);
        outsideAheadOfUnfit();
        moves(Due.INT);
        moves(Due.MARK);
        moves(Stock.ROW);
        moves(Stock.TABLE);
        movesToItself();
        stepsOutside();
        fewerCells();
        firstFaultDecides();
        moreCells();
        Due.end("OutsideTest");
    }

    /** Also where there would be no LINE that had fewer than no numbers, and where they would be VOID. */
    private static void negative() {
        int[] tags = {Stock.EMPTY, Due.INT, Stock.ROW, Stock.TABLE};
        for (int tag : tags) {
            negative(tag, "4 band", "band", 1, 0, -1);
            negative(tag, "4 band", "band", 1, 7, -400);
            negative(tag, "5 row", "row", 1, 0, -1);
            negative(tag, "5 row", "row", 1, 3, -40);
            negative(tag, "6 table, n", "table", 1, -1, 0);
            negative(tag, "6 table, n", "table", 1, -20, 20);
            negative(tag, "6 table, n of VOID ones", "table", 1, -1, 21);
            negative(tag, "6 table, m", "table", 1, 1, -1);
            negative(tag, "6 table, m", "table", 1, 20, -20);
            negative(tag, "6 table, m of no LINES", "table", 1, 0, -1);
            negative(tag, "6 table, both", "table", 1, -1, -1);
            negative(tag, "6 table, both", "table", 1, -20, -20);
        }
    }

    private static void negative(int tag, String why, String name, long... a) {
        Busy busy = new Busy();
        Stock.put(busy.calls, 1, tag, 2);
        busy.refuses(why, Due.NEGATIVE, name, a);
    }

    private static long[] beyond(int n) {
        return new long[] {LEAST, LEAST + 1, -n - 1, -1, n, n + 1, MOST - 1, MOST};
    }

    private static void cellsOfBand(int kind, int n) {
        Calls c = new Calls();
        c.ask("band", 3, kind, n);
        for (long i : beyond(n)) {
            c.no("11", Due.OUTSIDE, "get", 3, kind, i);
            c.no("12", Due.OUTSIDE, "set", 3, kind, i, 1);
        }
        c.answers("10", n, "size", 3, kind);
        for (int i = 0; i < n; i += Math.max(1, n - 1)) {
            c.answers("12 nothing was set", 0, "get", 3, kind, i);
            c.yes("12", "set", 3, kind, i, Stock.bitsOf(kind, 1));
            c.answers("11", Stock.bitsOf(kind, 1), "get", 3, kind, i);
        }
        for (int k = 0; k < 8 && n < 2; k++) {
            Busy busy = new Busy();
            Stock.put(busy.calls, 3, kind, n);
            busy.refuses("11", Due.OUTSIDE, "get", 3, kind, beyond(n)[k]);
            busy = new Busy();
            Stock.put(busy.calls, 3, kind, n);
            busy.refuses("12", Due.OUTSIDE, "set", 3, kind, beyond(n)[k], 0);
        }
    }

    private static void placesOfRow(int sort, int n) {
        int fitting = sort == 0 ? 1 : sort;
        Calls c = new Calls();
        c.ask("row", 3, sort, n);
        for (long i : beyond(n)) {
            c.no("13", Due.OUTSIDE, "feature", 3, i, fitting, 5);
            c.no("13 of sort 0", Due.OUTSIDE, "feature", 3, i, 0, 5);
            c.no("14", Due.OUTSIDE, "about", 3, i, 1);
        }
        for (int i = 0; i < n; i += Math.max(1, n - 1)) {
            c.no("13 nothing was put", Due.MISSING, "about", 3, i, 1);
            c.yes("13", "feature", 3, i, fitting, 6);
            c.answers("14", 6, "about", 3, i, 1);
        }
        for (int k = 0; k < 8 && n < 2; k++) {
            for (int s = 0; s < 4; s++) {
                Busy busy = new Busy();
                Stock.put(busy.calls, 3, Stock.ROW + sort, n);
                busy.refuses("13", Due.OUTSIDE, "feature", 3, beyond(n)[k], s, 5);
            }
        }
    }

    private static void linesOfTable(int n) {
        Calls c = new Calls();
        c.ask("table", 3, n, 2);
        for (long i : beyond(n)) {
            c.no("15 i", Due.OUTSIDE, "entry", 3, i, 0);
            c.no("16 i", Due.OUTSIDE, "enter", 3, i, 0, 5);
            c.no("17", Due.OUTSIDE, "line", 3, i, 1);
            c.no("17 VOID", Due.OUTSIDE, "line", 3, i, -1);
        }
        for (int i = 0; i < n; i += Math.max(1, n - 1)) {
            c.answers("16 nothing was entered", 0, "entry", 3, i, 1);
            c.yes("16", "enter", 3, i, 1, 6);
            c.answers("15", 6, "entry", 3, i, 1);
            c.yes("17", "line", 3, i, 1);
            c.no("17 a new one", Due.OUTSIDE, "entry", 3, i, 1);
        }
        for (int k = 0; k < 8 && n < 2; k++) {
            Busy busy = new Busy();
            Stock.put(busy.calls, 3, Stock.TABLE, n);
            busy.refuses("17", Due.OUTSIDE, "line", 3, beyond(n)[k], -1);
        }
    }

    private static void numbersOfLine(int m) {
        Calls c = new Calls();
        c.ask("table", 3, 2, m);
        for (long j : beyond(m)) {
            c.no("15 j", Due.OUTSIDE, "entry", 3, 1, j);
            c.no("16 j", Due.OUTSIDE, "enter", 3, 1, j, 5);
            c.no("15 i and j", Due.OUTSIDE, "entry", 3, 2, j);
            c.no("16 i and j", Due.OUTSIDE, "enter", 3, -1, j, 5);
        }
        for (int j = 0; j < m; j += Math.max(1, m - 1)) {
            c.answers("16 nothing was entered", 0, "entry", 3, 1, j);
            c.yes("16", "enter", 3, 1, j, LEAST);
            c.answers("15", LEAST, "entry", 3, 1, j);
        }
    }

    /** "WRONG, MISSING, OUTSIDE, UNFIT": in this order. */
    private static void outsideAheadOfUnfit() {
        for (long i : beyond(3)) {
            Busy busy = new Busy();
            Stock.put(busy.calls, 1, Stock.ROW + 1, 3);
            busy.refuses("13", Due.OUTSIDE, "feature", 1, i, 2, 5);
        }
        Busy busy = new Busy();
        Stock.put(busy.calls, 1, Stock.ROW + 1, 3);
        busy.refuses("13", Due.UNFIT, "feature", 1, 2, 2, 5);
    }

    /** "OUTSIDE: i, j or n below 0, or one beyond an end": alone and together, and where a sum of ints would wrap. */
    private static void moves(int tag) {
        long[] values = {LEAST, LEAST + 1, -1, 0, 1, 2, 3, MOST - 2, MOST - 1, MOST};
        for (int from = 0; from < 3; from++) {
            for (int to = 0; to < 3; to++) {
                for (long i : values) {
                    for (long j : values) {
                        movesOf(tag, from, to, i, j, values);
                    }
                }
            }
        }
    }

    private static void movesOf(int tag, int from, int to, long i, long j, long[] values) {
        for (long n : values) {
            Calls c = new Calls();
            Stock.put(c, 1, tag, from);
            Stock.put(c, 2, tag, to);
            boolean isOutside = i < 0 || j < 0 || n < 0 || i + n > from || j + n > to;
            String held = isOutside ? c.places() : "";
            if (isOutside) {
                c.no("18 " + from + " to " + to, Due.OUTSIDE, "move", 1, i, 2, j, n);
                c.went("18", 0);
                Due.is("18 nothing is moved", c.places().equals(held) ? 1 : 0, 1);
            } else {
                c.yes("18 " + from + " to " + to, "move", 1, i, 2, j, n);
            }
        }
    }

    private static void movesToItself() {
        int[] tags = {Due.DOUBLE, Stock.ROW + 2, Stock.TABLE};
        for (int tag : tags) {
            long[][] beyond = {{0, 1, 3}, {1, 0, 3}, {3, 3, 1}, {4, 0, 0}, {0, 4, 0}, {-1, 1, 1}, {1, -1, 1}, {1, 1, -1}, {1, 1, MOST}};
            for (long[] n : beyond) {
                Busy busy = new Busy();
                Stock.put(busy.calls, 1, tag, 3);
                busy.refuses("18 to itself", Due.OUTSIDE, "move", 1, n[0], 1, n[1], n[2]);
            }
            Calls c = new Calls();
            Stock.put(c, 1, tag, 3);
            String held = c.places();
            c.yes("18 all to where they are", "move", 1, 0, 1, 0, 3);
            c.yes("18 none at the end", "move", 1, 3, 1, 3, 0);
            Due.is("18 nothing is changed", c.places().equals(held) ? 1 : 0, 1);
        }
    }

    /** MOVE, ADD and PUT with a c that is no such cell: each is a FAULT 3 in the JOB. */
    private static void stepsOutside() {
        for (int n = 0; n < 3; n++) {
            for (long c : beyond(n)) {
                stepOutside(n, 5, 1, Due.SHORT, c);
                stepOutside(n, 6, 1, 7, c);
                if (c != n) {
                    stepOutside(n, 4, 1, 1, c);
                }
            }
        }
    }

    private static void stepOutside(int n, long... step) {
        Calls c = new Calls();
        Stock.put(c, 1, Due.SHORT, n);
        String held = c.places();
        c.ask("step", step);
        c.no("32 step " + Calls.text("", step), Due.OUTSIDE, "job");
        c.done("33", 0, 0, 0, 0, 0, 0, -1);
        Due.is("34", c.ask("total"), 0);
        Due.is("32 nothing is changed", c.places().equals(held) ? 1 : 0, 1);
    }

    /** "OUTSIDE where one has fewer": at the first cell that it hasn't, to which the act has come with all ahead of it. */
    private static void fewerCells() {
        String[] acts = {"reckon", "compare", "mark"};
        for (String name : acts) {
            int tag = name.equals("mark") ? Due.MARK : Due.INT;
            for (int n = 0; n < 4; n++) {
                for (int target = 1; target < 4; target++) {
                    Busy busy = new Busy();
                    Stock.put(busy.calls, 1, tag, 4);
                    Stock.put(busy.calls, 2, tag, n);
                    busy.refuses(name, Due.OUTSIDE, n + 1, name, 0, 1, 2, target);
                }
            }
        }
        int[][] lengths = {{4, 4, 3}, {4, 3, 4}, {4, 3, 3}, {4, 3, 1}, {4, 1, 3}, {4, 0, 4}, {4, 4, 0}, {1, 0, 0}, {400, 399, 400}, {400, 400, 399}};
        for (int[] n : lengths) {
            for (int target = 1; target < 5; target++) {
                fewerOfThree("choose", Due.MARK, n, target);
                fewerOfThree("fuse", Due.INT, n, target);
            }
        }
    }

    private static void fewerOfThree(String name, int tag, int[] n, int target) {
        Calls c = new Calls();
        c.ask("band", 1, tag, n[0]);
        c.ask("band", 2, Due.INT, n[1]);
        c.ask("band", 3, Due.FLOAT, n[2]);
        long held = c.ask("holds", target);
        c.no(name, Due.OUTSIDE, name, 1, 2, 3, target);
        c.went(name, Math.min(n[1], n[2]) + 1);
        Due.is(name + " puts nothing", c.ask("holds", target), held);
        Due.is(name + " puts nothing", c.ask("size", 1, tag), n[0]);
        Due.is(name + " puts nothing", c.ask("size", 2, Due.INT), n[1]);
        Due.is(name + " puts nothing", c.ask("size", 3, Due.FLOAT), n[2]);
    }

    /** "the first cell with a FAULT decides, and nothing is put anywhere". */
    private static void firstFaultDecides() {
        int[] kinds = {Due.BYTE, Due.SIGN, Due.SHORT, Due.INT, Due.LONG};
        for (int kind : kinds) {
            for (int op = 3; op < 5; op++) {
                zeroAt(kind, op, 0, Due.ZERO, 1, 0, 5, 5);
                zeroAt(kind, op, 1, Due.ZERO, 2, 5, 0, 0);
                zeroAt(kind, op, 2, Due.ZERO, 3, 5, 5, 0);
                zeroAt(kind, op, 3, Due.OUTSIDE, 4, 5, 5, 5);
                zeroAt(kind, op, 0, Due.OUTSIDE, 1);
                zeroAt(kind, op, 1, Due.OUTSIDE, 2, 5);
            }
        }
    }

    private static void zeroAt(int kind, int op, int at, int fault, int gone, long... divisors) {
        for (int target = 1; target < 4; target++) {
            Busy busy = new Busy();
            busy.calls.give(1, kind, 7, 8, 9, 10);
            busy.calls.give(2, kind, divisors);
            busy.refuses("19 cell " + at, fault, gone, "reckon", op, 1, 2, target);
        }
    }

    /** "(more ones are not looked at)": nor is the 0 among them divided by. */
    private static void moreCells() {
        Calls c = new Calls();
        c.give(0, Due.INT, 9, 8);
        c.give(1, Due.INT, 3, 2, 0, 0);
        c.yes("19 more", "reckon", 3, 0, 1, 2);
        c.went("19 more", 2);
        c.cells("19 more", 2, Due.INT, 3, 4);
        c.yes("20 more", "compare", 2, 0, 1, 2);
        c.went("20 more", 2);
        c.cells("20 more", 2, Due.MARK, 1, 1);
        c.give(3, Due.MARK, 1);
        c.give(4, Due.MARK, 1, 1, 0);
        c.yes("21 more", "mark", 0, 3, 4, 5);
        c.went("21 more", 1);
        c.cells("21 more", 5, Due.MARK, 1);
        c.yes("22 more", "choose", 3, 0, 1, 5);
        c.went("22 more", 1);
        c.cells("22 more", 5, Due.INT, 9);
        c.yes("26 more", "fuse", 0, 1, 1, 5);
        c.went("26 more", 2);
        c.doubles("26 more", 5, 30, 18);
        c.give(6, Due.INT);
        c.yes("19 none of none", "reckon", 3, 6, 6, 7);
        c.yes("19 none, more", "reckon", 3, 6, 1, 7);
        c.went("19 none, more", 0);
        c.cells("19 none, more", 7, Due.INT);
    }
}
