/**
 * "9 REFUSED: a number is not as said; this is asked ahead of all others, in the order of the arguments": the ranges of all
 * promises at their first and last number and beyond.
 */
public final class RangesTest {
    public static void main(String[] args) {
        for (Act act : Act.ALL) {
            good(act);
            for (int k = 0; k < act.args.length; k++) {
                if (act.args[k].isPlace()) {
                    allPlaces(act, k);
                }
                if (act.args[k].isRanged()) {
                    within(act, k);
                    beyond(act, k);
                } else {
                    notRanged(act, k);
                }
            }
            severalBeyond(act);
        }
        questions();
        Due.end("RangesTest");
    }

    private static long[] with(long[] a, int k, long value) {
        long[] changed = a.clone();
        changed[k] = value;
        return changed;
    }

    /** The FAULT that is due at a number within its range, all else being good. */
    private static int dueWithin(Act act, int k, long value) {
        boolean isCount = act.promise <= 6 && value < 0;
        boolean isPeakTakenForLine = act.name.equals("about") && k == 2 && value == 4;
        return isCount ? Due.NEGATIVE : isPeakTakenForLine ? Due.WRONG : 0;
    }

    private static void tells(String why, int fault, Act act, long[] a) {
        Calls c = new Calls();
        act.stock(c, a);
        c.ask(act.name, a);
        Due.is(why + ": " + Calls.text(act.name, a) + " told", c.ask("told"), fault);
    }

    private static void good(Act act) {
        tells(act + " with good arguments", 0, act, act.good());
    }

    private static void allPlaces(Act act, int k) {
        for (int p = 0; p < 12; p++) {
            long[] a = act.good();
            for (int other = 0; other < a.length; other++) {
                a[other] = act.args[other].isPlace() ? (p + other - k + 12) % 12 : a[other];
            }
            tells(act + " " + act.args[k].name, 0, act, a);
        }
    }

    private static void within(Act act, int k) {
        Act.Arg arg = act.args[k];
        for (int value = arg.first; value <= arg.last; value++) {
            if (!arg.isPlace()) {
                tells(act + " " + arg.name + " within", dueWithin(act, k, value), act, with(act.good(), k, value));
            }
        }
    }

    private static long[] valuesBeyond(Act.Arg arg) {
        return new long[] {arg.first - 1, arg.last + 1, Integer.MIN_VALUE, Integer.MAX_VALUE};
    }

    private static void beyond(Act act, int k) {
        for (long value : valuesBeyond(act.args[k])) {
            String why = act + " " + act.args[k].name + " beyond";
            Busy busy = new Busy();
            act.stock(busy.calls, act.good());
            busy.refuses(why, Due.REFUSED, act.name, with(act.good(), k, value));
            Busy empty = new Busy();
            empty.refuses(why + ", ahead of MISSING", Due.REFUSED, act.name, with(faulty(act), k, value));
            Busy wrong = new Busy();
            stockWrong(wrong.calls, act);
            wrong.refuses(why + ", ahead of WRONG", Due.REFUSED, act.name, with(faulty(act), k, value));
            Busy outside = new Busy();
            act.stock(outside.calls, act.good());
            outside.refuses(why + ", ahead of NEGATIVE and OUTSIDE", Due.REFUSED, act.name, with(faulty(act), k, value));
        }
    }

    /** Numbers that have other FAULTS, as far as there are such: fewer than none, and no such cell. */
    private static long[] faulty(Act act) {
        long[] a = act.good();
        for (int k = 0; k < a.length; k++) {
            boolean isCount = act.args[k].isRanged() && act.args[k].first < 0;
            a[k] = isCount || act.hasIndex() && !act.args[k].isRanged() ? -1 : a[k];
        }
        return a;
    }

    private static void stockWrong(Calls c, Act act) {
        for (int k = 0; k < act.args.length; k++) {
            if (act.args[k].isPlace()) {
                Stock.put(c, k, act.args[k].takes(Stock.SCALE) ? Due.MARK : Stock.SCALE, 3);
            }
        }
    }

    private static void severalBeyond(Act act) {
        long[] below = act.good();
        long[] above = act.good();
        for (int k = 0; k < below.length; k++) {
            below[k] = act.args[k].isRanged() ? act.args[k].first - 1 : -1;
            above[k] = act.args[k].isRanged() ? act.args[k].last + 1 : 1000;
        }
        new Busy().refuses(act + " all below", Due.REFUSED, act.name, below);
        new Busy().refuses(act + " all above", Due.REFUSED, act.name, above);
    }

    /** What has no range is never REFUSED. */
    private static void notRanged(Act act, int k) {
        long[] values = {Integer.MIN_VALUE, -1, 0, 3, 400, Integer.MAX_VALUE};
        for (long value : values) {
            Calls c = new Calls();
            long[] a = with(act.good(), k, value);
            act.stock(c, a);
            c.ask(act.name, a);
            boolean isOutside = act.args[k].name.equals("index") && (value < 0 || value > 2)
                || act.name.equals("entry") && k == 2 && value > 1 || act.name.equals("enter") && k == 2 && value > 1
                || act.name.equals("move") && k == 4 && (value < 0 || value > 3);
            boolean isMoved = act.name.equals("move") && k < 4 && value > 2;
            Due.is(act + " not ranged: " + Calls.text(act.name, a), c.ask("told"), isOutside || isMoved ? Due.OUTSIDE : 0);
        }
    }

    /** "NONE when .. there is none such" (holds), "NONE for another what" (done): these have no FAULTS. */
    private static void questions() {
        Calls c = new Calls();
        c.no("a fault", Due.MISSING, "size", 0, 0);
        long[] places = {-1, 12, Integer.MIN_VALUE, Integer.MAX_VALUE};
        for (long p : places) {
            Due.is("3 holds " + p, c.ask("holds", p), -1);
        }
        long[] whats = {-1, 7, Integer.MIN_VALUE, Integer.MAX_VALUE};
        for (long what : whats) {
            Due.is("33 done " + what, c.ask("done", what), -1);
        }
        Due.is("2 questions tell nothing", c.ask("told"), Due.MISSING);
        for (int p = 0; p < 12; p++) {
            c.ask("band", p, Due.SHORT, 0);
            Due.is("3 holds " + p, c.ask("holds", p), Due.SHORT);
        }
    }
}
