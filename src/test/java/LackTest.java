/**
 * "1 MISSING: what must be there is EMPTY, or VOID. 2 WRONG: a place holds something else than it is taken for": each place
 * of each act with each thing that it may hold.
 */
public final class LackTest {
    private static final int LAST_TAG = 13;

    public static void main(String[] args) {
        for (Act act : Act.ALL) {
            for (int k = 0; k < act.args.length; k++) {
                if (act.args[k].isPlace() && !act.name.equals("move")) {
                    eachThing(act, k);
                }
            }
            if (!act.name.equals("move")) {
                allThings(act);
            }
        }
        eachKind();
        notOfFirst();
        moves();
        voidFeatures();
        voidLines();
        Due.end("LackTest");
    }

    /** One place lacks; all that a refused call must leave is asked behind it. */
    private static void eachThing(Act act, int k) {
        for (int tag = Stock.EMPTY; tag <= LAST_TAG; tag++) {
            int fault = act.args[k].lack(tag);
            if (fault != 0) {
                Busy busy = new Busy();
                long[] a = act.good();
                act.stock(busy.calls, a);
                Stock.put(busy.calls, (int) a[k], tag, 3);
                busy.refuses(act + " " + act.args[k].name + " holds " + Stock.name(tag), fault, act.name, a);
            }
        }
    }

    /**
     * "Places that are MISSING, WRONG are asked ahead of all cells, in the order of the arguments": all things meet in all
     * places, and each place behind the first has a cell fewer than the one ahead of it.
     */
    private static void allThings(Act act) {
        int places = 0;
        for (Act.Arg arg : act.args) {
            places += arg.isPlace() && !arg.takes(Stock.EMPTY) ? 1 : 0;
        }
        int meetings = 1;
        for (int k = 0; k < places; k++) {
            meetings *= LAST_TAG + 2;
        }
        for (int meeting = 0; meeting < meetings && places > 0; meeting++) {
            meet(act, meeting);
        }
    }

    private static void meet(Act act, int meeting) {
        Calls c = new Calls();
        long[] a = act.good();
        String what = act + " of";
        int fault = 0;
        int cells = 4;
        int rest = meeting;
        for (int k = 0; k < a.length; k++) {
            if (act.args[k].isPlace() && !act.args[k].takes(Stock.EMPTY)) {
                int tag = rest % (LAST_TAG + 2) - 1;
                rest /= LAST_TAG + 2;
                cells--;
                Stock.put(c, (int) a[k], tag, cells);
                what += " " + Stock.name(tag);
                fault = fault != 0 ? fault : act.args[k].lack(tag);
            } else if (act.hasIndex() && !act.args[k].isRanged()) {
                a[k] = -1;
            }
        }
        boolean isScaled = act.name.equals("apply");
        boolean isShort = act.reckons() && cells < 3 && !isScaled;
        int due = fault != 0 ? fault : act.hasIndex() || isShort ? Due.OUTSIDE : 0;
        c.ask(act.name, a);
        Due.is(what + " told", c.ask("told"), due);
        Due.is(what + " gone", c.ask("gone"), fault != 0 || !act.reckons() ? 0 : isShort ? cells + 1 : 3);
        int last = act.args.length - 1;
        if (due != 0 && act.args[last].takes(Stock.EMPTY)) {
            Due.is(what + " puts nothing", c.ask("holds", a[last]), -1);
        }
    }

    /** size, get and set: "Place p taken for a BAND of a KIND". */
    private static void eachKind() {
        String[] acts = {"size", "get", "set"};
        for (String name : acts) {
            for (int kind = 0; kind < 8; kind++) {
                for (int tag = Stock.EMPTY; tag <= LAST_TAG; tag++) {
                    Calls c = new Calls();
                    Stock.put(c, 7, tag, 2);
                    long[] a = name.equals("size") ? new long[] {7, kind} : name.equals("get") ? new long[] {7, kind, 1} : new long[] {7, kind, 1, 0};
                    int fault = tag == Stock.EMPTY ? Due.MISSING : tag == kind ? 0 : Due.WRONG;
                    c.ask(name, a);
                    Due.is(name + " of KIND " + kind + " of " + Stock.name(tag) + " told", c.ask("told"), fault);
                }
            }
        }
    }

    /** "3 not of p (q is not looked at, but REFUSED)". */
    private static void notOfFirst() {
        for (int tag = Stock.EMPTY; tag <= LAST_TAG; tag++) {
            Calls c = new Calls();
            c.give(0, Due.MARK, 1, 0, 1);
            Stock.put(c, 1, tag, 1);
            c.yes("21 not, q holds " + Stock.name(tag), "mark", 3, 0, 1, 2);
            c.went("21 not", 3);
            c.cells("21 not", 2, Due.MARK, 0, 1, 0);
            for (int op = 0; op < 3; op++) {
                int fault = tag == Stock.EMPTY ? Due.MISSING : tag == Due.MARK ? Due.OUTSIDE : Due.WRONG;
                c.no("21 op " + op + ", q holds " + Stock.name(tag), fault, "mark", op, 0, 1, 2);
            }
            Busy busy = new Busy();
            busy.calls.give(0, Due.MARK, 1);
            busy.refuses("21 not, q refused", Due.REFUSED, "mark", 3, 0, 12, 2);
            busy = new Busy();
            busy.calls.give(0, Due.MARK, 1);
            busy.refuses("21 not, q refused", Due.REFUSED, "mark", 3, 0, -1, 2);
        }
    }

    /** move: "MISSING (p, then q); WRONG: one is no BAND, ROW or TABLE, or one is a BAND and the other none of its KIND". */
    private static void moves() {
        for (int tag = Stock.EMPTY; tag <= LAST_TAG; tag++) {
            for (int other = Stock.EMPTY; other <= LAST_TAG; other++) {
                int fault = faultOfMove(tag, other);
                String what = "18 " + Stock.name(tag) + " to " + Stock.name(other);
                if (fault != 0) {
                    movesRefused(what, fault, tag, other);
                } else {
                    movesDone(what, tag, other);
                }
            }
            movesOfOne(tag);
        }
    }

    private static int faultOfMove(int tag, int other) {
        if (tag == Stock.EMPTY || other == Stock.EMPTY) {
            return Due.MISSING;
        }
        boolean isScale = tag == Stock.SCALE || other == Stock.SCALE;
        boolean isBand = tag < Stock.ROW || other < Stock.ROW;
        return isScale || isBand && tag != other ? Due.WRONG : 0;
    }

    /** Ahead of OUTSIDE, too, and where nothing at all would be moved. */
    private static void movesRefused(String what, int fault, int tag, int other) {
        long[][] numbers = {{0, 0, 1}, {0, 0, 0}, {-1, 0, 1}, {0, -1, 1}, {0, 0, -1}, {9, 9, 9}};
        for (long[] n : numbers) {
            Busy busy = new Busy();
            Stock.put(busy.calls, 1, tag, 3);
            Stock.put(busy.calls, 2, other, 3);
            busy.refuses(what, fault, "move", 1, n[0], 2, n[1], n[2]);
        }
    }

    private static void movesDone(String what, int tag, int other) {
        Calls c = new Calls();
        Stock.put(c, 1, tag, 3);
        Stock.put(c, 2, other, 3);
        c.no(what, Due.OUTSIDE, "move", 1, 3, 2, 0, 1);
        boolean isFit = tag < Stock.ROW || tag == other || tag != Stock.TABLE && other == Stock.ROW
            || (tag == Stock.ROW || tag == Stock.ROW + 2 || tag == Stock.ROW + 3) && (other == Stock.ROW + 2 || other == Stock.ROW + 3);
        c.ask("move", 1, 0, 2, 0, 1);
        Due.is(what + " told", c.ask("told"), isFit ? 0 : Due.UNFIT);
    }

    private static void movesOfOne(int tag) {
        Calls c = new Calls();
        Stock.put(c, 1, tag, 3);
        int fault = tag == Stock.EMPTY ? Due.MISSING : tag == Stock.SCALE ? Due.WRONG : 0;
        c.ask("move", 1, 0, 1, 1, 2);
        Due.is("18 " + Stock.name(tag) + " to itself told", c.ask("told"), fault);
    }

    /** about: "then MISSING where it is VOID (0 .. 1 alone; 2 .. 4 too), WRONG where it is none such". */
    private static void voidFeatures() {
        for (int sort = 0; sort < 4; sort++) {
            for (int what = 0; what < 5; what++) {
                Busy busy = new Busy();
                busy.calls.ask("row", 0, sort, 2);
                busy.refuses("14 a new place is VOID", Due.MISSING, "about", 0, 0, what);
                busy = new Busy();
                busy.calls.ask("row", 0, sort, 2);
                busy.calls.ask("feature", 0, 1, sort == 0 ? 2 : sort, 5);
                busy.calls.yes("13 of sort 0: it is VOID", "feature", 0, 1, 0, 5);
                busy.refuses("14 VOID again", Due.MISSING, "about", 0, 1, what);
            }
        }
        int[][] noneSuch = {{1, 2}, {1, 3}, {2, 3}, {2, 4}, {3, 4}};
        for (int[] n : noneSuch) {
            Busy busy = new Busy();
            busy.calls.ask("row", 0, 0, 1);
            busy.calls.ask("feature", 0, 0, n[0], 5);
            busy.refuses("14 none such", Due.WRONG, "about", 0, 0, n[1]);
        }
    }

    /** entry, enter: "OUTSIDE (i), MISSING (a VOID LINE), OUTSIDE (j)". */
    private static void voidLines() {
        long[] js = {Integer.MIN_VALUE, -1, 0, 1, 20, Integer.MAX_VALUE};
        for (long j : js) {
            Busy busy = new Busy();
            busy.calls.ask("table", 0, 2, 21);
            busy.refuses("15 a new LINE is VOID", Due.MISSING, "entry", 0, 1, j);
            busy = new Busy();
            busy.calls.ask("table", 0, 2, 21);
            busy.refuses("16 a new LINE is VOID", Due.MISSING, "enter", 0, 0, j, 5);
            busy = new Busy();
            busy.calls.ask("table", 0, 2, 3);
            busy.calls.yes("17 LINE i is VOID (n NONE)", "line", 0, 1, -1);
            busy.refuses("15 VOID now", Due.MISSING, "entry", 0, 1, j);
            busy = new Busy();
            busy.calls.ask("table", 0, 2, 21);
            busy.refuses("15 i ahead of VOID", Due.OUTSIDE, "entry", 0, 2, j);
            busy = new Busy();
            busy.calls.ask("table", 0, 2, 21);
            busy.refuses("16 i ahead of VOID", Due.OUTSIDE, "enter", 0, -1, j, 5);
        }
    }
}
