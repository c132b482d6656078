/** What is told behind an act with and without a FAULT, and what such an act leaves. RangesTest, LackTest and OutsideTest ask the same of theirs. */
public final class RefusedTest {
    public static void main(String[] args) {
        for (Act act : Act.ALL) {
            toldBehindGoodOne(act);
            goneBehindGoodOne(act);
        }
        questionsLeaveAll();
        noneIsAnAnswer();
        unfitFeatures();
        unfitIsMovedUpToTheFirst();
        unfitLines();
        unfitInStep();
        zero();
        sameLines();
        refusedTargets();
        keepsItsOwn();
        Due.end("RefusedTest");
    }

    /** "told() tells its kind, 0 of one that has none": each FAULT is forgotten with the next good act. */
    private static void toldBehindGoodOne(Act act) {
        for (int fault = 1; fault <= 9; fault++) {
            Calls c = new Calls();
            act.stock(c, act.good());
            causeFault(c, fault);
            Due.is("2 fault " + fault, c.ask("told"), fault);
            c.ask(act.name, act.good());
            Due.is(act + " behind fault " + fault + " told", c.ask("told"), 0);
        }
    }

    /** In places 8 to 11, which the good acts do not use. */
    private static void causeFault(Calls c, int fault) {
        switch (fault) {
            case Due.MISSING: c.ask("size", 8, 0); break;
            case Due.WRONG: c.ask("scale", 8, 0, 0); c.ask("size", 8, 0); break;
            case Due.OUTSIDE: c.ask("row", 8, 0, 0); c.ask("about", 8, 0, 0); break;
            case Due.NEGATIVE: c.ask("band", 8, 0, -1); break;
            case Due.UNFIT: c.ask("row", 8, 1, 1); c.ask("feature", 8, 0, 2, 0); break;
            case Due.ZERO: c.ask("band", 8, Due.INT, 1); c.ask("reckon", 3, 8, 8, 9); break;
            case Due.LOCKED: c.steps(new int[] {0, 8}, new int[] {0, 8}, new int[] {1}, new int[] {1}); c.ask("job"); break;
            case Due.RAISED: c.steps(new int[] {7}); c.ask("job"); break;
            default: c.ask("clear", 12); break;
        }
    }

    /** "0 behind any other act (get, set, step .., too)". */
    private static void goneBehindGoodOne(Act act) {
        Calls c = new Calls();
        act.stock(c, act.good());
        c.give(9, Due.BYTE, 1, 2, 3, 4, 5);
        c.ask("stat", 0, 9);
        c.went("28", 5);
        c.ask(act.name, act.good());
        c.went(act.toString(), act.reckons() ? 3 : 0);
        c.ask("stat", 0, 9);
        c.ask("job");
        c.went("32 job", 0);
    }

    /** "(all but told, holds, job's questions)": these tell nothing and are no acts. */
    private static void questionsLeaveAll() {
        String[] questions = {"told", "holds", "done", "total", "gone"};
        for (String name : questions) {
            Calls c = new Calls();
            c.give(0, Due.INT, 1, 0);
            c.ask("reckon", 3, 0, 0, 1);
            for (int p = -1; p < 13; p++) {
                c.ask(name, p);
            }
            Due.is("2 " + name + " told", c.ask("told"), Due.ZERO);
            c.went("35 " + name, 2);
        }
    }

    /** "NONE with a FAULT (a cell's BITS may be -1, too)", and so may numbers: told() alone tells them apart. */
    private static void noneIsAnAnswer() {
        Calls c = new Calls();
        int[] kinds = {Due.BYTE, Due.SHORT, Due.INT, Due.LONG};
        for (int kind : kinds) {
            c.give(0, kind, -1);
            c.answers("11 -1", -1, "get", 0, kind, 0);
            c.ask("step", 5, 0, kind, 0);
            c.yes("32 ADD of -1", "job");
            Due.is("34 -1", c.ask("total"), -1);
        }
        int[] numbers = {-1, 0, Integer.MIN_VALUE, Integer.MAX_VALUE};
        for (int number : numbers) {
            c.ask("row", 1, 0, 1);
            c.yes("13 any number", "feature", 1, 0, 3, number);
            for (int what = 1; what < 4; what++) {
                c.answers("14 any number", number, "about", 1, 0, what);
            }
            c.ask("table", 2, 1, 1);
            c.yes("16 any number", "enter", 2, 0, 0, number);
            c.answers("15 any number", number, "entry", 2, 0, 0);
        }
    }

    /** "a ROW of SORT 0 can hold all, of 1 LINES, of 2 POINTS and PEAKS, of 3 PEAKS". */
    private static boolean fits(int sort, int rowSort) {
        return rowSort == 0 || sort == rowSort || rowSort == 2 && sort == 3;
    }

    private static void unfitFeatures() {
        for (int rowSort = 0; rowSort < 4; rowSort++) {
            for (int sort = 1; sort < 4; sort++) {
                if (fits(sort, rowSort)) {
                    Calls c = new Calls();
                    c.ask("row", 1, rowSort, 2);
                    c.yes("13", "feature", 1, 1, sort, 77);
                    c.answers("13", sort, "about", 1, 1, 0);
                } else {
                    Busy busy = new Busy();
                    Stock.put(busy.calls, 1, Stock.ROW + rowSort, 2);
                    busy.refuses("13", Due.UNFIT, "feature", 1, 1, sort, 77);
                    busy = new Busy();
                    busy.calls.ask("row", 1, rowSort, 2);
                    busy.refuses("13 where it is VOID", Due.UNFIT, "feature", 1, 0, sort, 77);
                }
            }
        }
    }

    /** "those ahead of the first one that doesn't are moved": for each place at which the first one may stand. */
    private static void unfitIsMovedUpToTheFirst() {
        int[][] sorts = {{3, 1, 2}, {2, 1, 2}, {3, 1, 3}, {3, 2, 3}, {1, 2, 1}, {1, 3, 1}};
        for (int[] s : sorts) {
            for (int at = 0; at < 4; at++) {
                movedUpTo(at, s[0], s[1], s[2]);
            }
        }
    }

    /** Four FEATURES of which the one at a place is UNFIT, and so is the last; the second of those that fit is VOID. */
    private static void movedUpTo(int at, int fitting, int unfit, int rowSort) {
        Calls c = new Calls();
        c.ask("row", 0, 0, 5);
        c.ask("row", 1, rowSort, 6);
        for (int i = 0; i < 4; i++) {
            c.ask("feature", 0, i + 1, i == at || i == 3 ? unfit : i == 1 ? 0 : fitting, 100 + i);
        }
        for (int i = 0; i < 6; i++) {
            c.ask("feature", 1, i, fits(3, rowSort) ? 3 : rowSort, 200 + i);
        }
        c.ask("stat", 0, 9);
        c.no("18 UNFIT at " + at, Due.UNFIT, "move", 0, 1, 1, 2, 4);
        c.went("18 UNFIT", 0);
        for (int i = 0; i < 6; i++) {
            boolean isMoved = i >= 2 && i < 2 + at;
            if (isMoved && i == 3) {
                c.no("18 VOID is moved", Due.MISSING, "about", 1, i, 1);
            } else {
                c.answers("18 UNFIT at " + at + ", place " + i, isMoved ? 98 + i : 200 + i, "about", 1, i, 1);
            }
        }
        for (int i = 0; i < 4; i++) {
            c.ask("about", 0, i + 1, 1);
            Due.is("18 what is moved stays", c.ask("told"), i == 1 && at != 1 ? Due.MISSING : 0);
        }
    }

    /** "a LINE in a TABLE", and in no ROW; a FEATURE in no TABLE. */
    private static void unfitLines() {
        for (int rowSort = 0; rowSort < 4; rowSort++) {
            Calls c = new Calls();
            c.ask("table", 0, 4, 1);
            c.ask("line", 0, 0, -1);
            c.ask("line", 0, 1, -1);
            Stock.put(c, 1, Stock.ROW + rowSort, 4);
            c.no("18 a LINE in a ROW", Due.UNFIT, "move", 0, 0, 1, 0, 4);
            c.no("18 VOID ones ahead of it are moved", Due.MISSING, "about", 1, 0, 0);
            c.no("18 VOID ones ahead of it are moved", Due.MISSING, "about", 1, 1, 0);
            c.answers("18 it is not moved", 15, "about", 1, 2, 1);
            c.answers("18 nor what is behind it", 17, "about", 1, 3, 1);
            c.ask("table", 2, 4, 1);
            c.ask("enter", 2, 2, 0, 9);
            c.no("18 a FEATURE in a TABLE", Due.UNFIT, "move", 1, 0, 2, 0, 4);
            c.no("18 VOID ones ahead of it are moved", Due.MISSING, "entry", 2, 1, 0);
            c.answers("18 it is not moved", 9, "entry", 2, 2, 0);
            c.answers("18 nor what is behind it", 0, "entry", 2, 3, 0);
            c.no("18 at once", Due.UNFIT, "move", 0, 2, 1, 2, 1);
            c.yes("18 none of them", "move", 0, 2, 1, 2, 0);
        }
    }

    private static void unfitInStep() {
        Calls c = new Calls();
        c.ask("row", 0, 0, 3);
        c.ask("feature", 0, 0, 2, 50);
        c.ask("feature", 0, 1, 1, 51);
        c.ask("feature", 0, 2, 2, 52);
        c.ask("row", 1, 2, 3);
        c.steps(new int[] {4, 0, 1, 3}, new int[] {8, 0, 1});
        c.no("32 MOVE", Due.UNFIT, "job");
        c.done("33 MOVE", 0, 0, 0, 0, 0, 0, -1);
        c.answers("32 those ahead are moved", 50, "about", 1, 0, 1);
        c.no("32 it is not moved", Due.MISSING, "about", 1, 1, 1);
        c.no("32 nor what is behind it", Due.MISSING, "about", 1, 2, 1);
        Due.is("32 nor are they changed", c.ask("holds", 0), Stock.ROW);
    }

    /** "6 ZERO: whole numbers are divided by 0": not FLOATS and DOUBLES, of which one of two is enough. */
    private static void zero() {
        for (int kind = 0; kind < 7; kind++) {
            for (int other = 0; other < 7; other++) {
                for (int op = 0; op < 7; op++) {
                    boolean isZero = kind < Due.FLOAT && other < Due.FLOAT && (op == 3 || op == 4);
                    Busy busy = new Busy();
                    Stock.put(busy.calls, 1, kind, 2);
                    busy.calls.ask("band", 2, other, 2);
                    if (isZero) {
                        busy.refuses("19 by 0", Due.ZERO, 1, "reckon", op, 1, 2, 3);
                    } else {
                        busy.calls.yes("19 with 0", "reckon", op, 1, 2, 3);
                        busy.calls.went("19 with 0", 2);
                    }
                }
            }
        }
    }

    /** "(LINES are the same ones then in both.)": until one of them has a new one. */
    private static void sameLines() {
        Calls c = new Calls();
        c.ask("table", 0, 2, 2);
        c.ask("table", 1, 2, 3);
        c.yes("18", "move", 0, 0, 1, 1, 1);
        c.yes("16", "enter", 1, 1, 1, 5);
        c.answers("18 in both", 5, "entry", 0, 0, 1);
        c.no("18 with its own length", Due.OUTSIDE, "entry", 1, 1, 2);
        c.no("16 a FAULT enters nothing", Due.OUTSIDE, "enter", 1, 1, 2, 6);
        c.yes("17", "line", 0, 0, 2);
        c.answers("17 a new one", 0, "entry", 0, 0, 1);
        c.answers("17 in one alone", 5, "entry", 1, 1, 1);
        c.yes("18", "move", 1, 1, 0, 0, 1);
        c.yes("8", "clear", 1);
        c.answers("8 the other stays", 5, "entry", 0, 0, 1);
        c.ask("step", 8, 0, 7, 0);
        c.ask("job");
        c.answers("32 SWAP takes them along", 5, "entry", 7, 0, 1);
    }

    /** "nothing is put anywhere": also where the place to be given to is one of those that are asked, or holds another thing. */
    private static void refusedTargets() {
        int[] tags = {Stock.EMPTY, Due.MARK, Due.DOUBLE, Stock.ROW, Stock.TABLE, Stock.SCALE};
        for (int tag : tags) {
            Busy busy = new Busy();
            Stock.put(busy.calls, 5, tag, 2);
            busy.calls.give(1, Due.INT, 6, 7);
            busy.calls.give(2, Due.INT, 6, 0);
            busy.refuses("19", Due.ZERO, 2, "reckon", 3, 1, 2, 5);
        }
        for (int target = 1; target < 3; target++) {
            Busy busy = new Busy();
            busy.calls.give(1, Due.INT, 6, 7);
            busy.calls.give(2, Due.INT, 6, 0);
            busy.refuses("19", Due.ZERO, 2, "reckon", 4, 1, 2, target);
        }
        for (int tag : tags) {
            Calls c = new Calls();
            Stock.put(c, 5, tag, 2);
            c.give(1, Due.INT, 6, 7);
            c.yes("19 over what it held", "reckon", 0, 1, 1, 5);
            c.cells("19 over what it held", 5, Due.INT, 12, 14);
        }
    }

    /** What was made is apart from what it is made of, also in the places of its own operands. */
    private static void keepsItsOwn() {
        Calls c = new Calls();
        c.give(0, Due.INT, 1, 2);
        c.yes("9", "keep", 0, 1);
        c.yes("23", "turn", Due.INT, 0, 2);
        c.ask("set", 0, Due.INT, 0, 9);
        c.cells("9 a copy of its own", 1, Due.INT, 1, 2);
        c.cells("23 a new BAND", 2, Due.INT, 1, 2);
        c.ask("set", 1, Due.INT, 1, 8);
        c.cells("9 a copy of its own", 0, Due.INT, 9, 2);
        c.yes("9 to itself", "keep", 0, 0);
        c.cells("9 to itself", 0, Due.INT, 9, 2);
        c.yes("19 in place of both", "reckon", 2, 0, 0, 0);
        c.cells("19 in place of both", 0, Due.INT, 81, 4);
        c.yes("26 in place of all", "fuse", 0, 0, 0, 0);
        c.doubles("26 in place of all", 0, 6642, 20);
    }
}
