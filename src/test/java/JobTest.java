/** Promises 31 to 34: step, job, done, total. */
public final class JobTest {
    private static final int OPEN = 0;
    private static final int CLOSE = 1;
    private static final int GUARD = 2;
    private static final int END = 3;
    private static final int MOVE = 4;
    private static final int ADD = 5;
    private static final int PUT = 6;
    private static final int RAISE = 7;
    private static final int SWAP = 8;

    public static void main(String[] args) {
        step();
        aheadOfAny();
        scopesAndGuards();
        faultsLeaveScopes();
        locked();
        none();
        deep();
        move();
        add();
        put();
        swap();
        whatWasDoneStays();
        Due.end("JobTest");
    }

    private static void steps(LayerHouse h, int[]... steps) {
        for (int[] s : steps) {
            h.step(s[0], s.length > 1 ? s[1] : 0, s.length > 2 ? s[2] : 0, s.length > 3 ? s[3] : 0);
        }
    }

    private static int[] s(int... step) {
        return step;
    }

    /** done(0) .. done(6): SCOPES begun, LEFT, CAUGHT, the last kind, STEPS done, most open, where it was none. */
    private static void done(String what, LayerHouse h, int... due) {
        for (int k = 0; k < 7; k++) {
            Due.is("33 " + what + " done " + k, h.done(k), due[k]);
        }
    }

    private static void step() {
        LayerHouse h = new LayerHouse();
        Due.no("31 code", h, h.step(9, 0, 0, 0), Due.REFUSED);
        Due.no("31 code below", h, h.step(-1, 0, 0, 0), Due.REFUSED);
        for (int k = 1; k <= 60; k++) {
            Due.yes("31 step", h, h.step(PUT, -99, 99, 99), k);
        }
        Due.no("31 there are 60", h, h.step(PUT, 0, 0, 0), Due.REFUSED);
        Due.no("32 60 steps, the first faulty", h, h.job(), Due.REFUSED);
        Due.is("33 it was one", h.done(6), -1);
        Due.yes("31 there is none then", h, h.step(GUARD, 0, 0, 0), 1);
        for (int k = 2; k <= 59; k++) {
            h.step(SWAP, 1, 2, 0);
        }
        Due.yes("31 the last", h, h.step(END, 0, 0, 0), 60);
        Due.yes("32 60 steps", h, h.job());
        done("60 steps", h, 0, 0, 0, 0, 60, 0, -1);
    }

    private static void aheadOfAny() {
        LayerHouse h = new LayerHouse();
        done("ahead of any", h, 0, 0, 0, 0, 0, 0, 0);
        Due.is("33 another what", h.done(7), -1);
        Due.is("33 another what", h.done(-1), -1);
        Due.is("34 ahead of any", h.total(), 0);
        Due.yes("32 no steps", h, h.job());
        done("no steps", h, 0, 0, 0, 0, 0, 0, -1);
    }

    private static void scopesAndGuards() {
        LayerHouse h = new LayerHouse();
        steps(h, s(OPEN, 0), s(GUARD), s(OPEN, 1), s(CLOSE), s(OPEN, 1), s(OPEN, 2), s(CLOSE), s(CLOSE), s(END), s(CLOSE), s(OPEN, 0), s(CLOSE));
        Due.yes("32 scopes of empty places", h, h.job());
        done("scopes", h, 5, 5, 0, 0, 12, 3, -1);
        Due.yes("32 no step is left", h, h.job());
        done("of the latest", h, 0, 0, 0, 0, 0, 0, -1);
    }

    private static void faultsLeaveScopes() {
        LayerHouse h = new LayerHouse();
        steps(h, s(OPEN, 0), s(GUARD), s(OPEN, 1), s(OPEN, 2), s(RAISE), s(CLOSE), s(CLOSE), s(SWAP, 3, 4), s(END), s(OPEN, 1), s(CLOSE), s(CLOSE));
        Due.yes("32 a caught fault", h, h.job());
        done("a caught fault", h, 4, 4, 1, Due.RAISED, 7, 3, -1);
        steps(h, s(GUARD), s(GUARD), s(RAISE), s(END), s(ADD, 0, 3, 0), s(END), s(OPEN, 3), s(OPEN, 4), s(RAISE), s(CLOSE), s(CLOSE));
        Due.no("32 one that is not caught", h, h.job(), Due.RAISED);
        done("one that is not caught", h, 2, 2, 2, Due.MISSING, 4, 2, -1);
        steps(h, s(OPEN, 3), s(OPEN, 4), s(CLOSE), s(CLOSE));
        Due.yes("32 all were unlocked", h, h.job());
        steps(h, s(GUARD), s(OPEN, 12), s(SWAP, 0, 1), s(CLOSE), s(END));
        Due.yes("32 no such place", h, h.job());
        done("no such place", h, 0, 0, 1, Due.REFUSED, 1, 0, -1);
        steps(h, s(GUARD), s(RAISE), s(END), s(GUARD), s(MOVE, 0, 1, 1), s(END));
        Due.yes("32 two guards", h, h.job());
        done("two guards", h, 0, 0, 2, Due.MISSING, 2, 0, -1);
    }

    private static void locked() {
        LayerHouse h = new LayerHouse();
        steps(h, s(OPEN, 5), s(GUARD), s(OPEN, 6), s(OPEN, 5), s(SWAP, 0, 1), s(CLOSE), s(CLOSE), s(END), s(CLOSE));
        Due.yes("32 locked", h, h.job());
        done("locked", h, 2, 2, 1, Due.LOCKED, 4, 2, -1);
        steps(h, s(OPEN, 5), s(OPEN, 5), s(CLOSE), s(CLOSE));
        Due.no("32 locked", h, h.job(), Due.LOCKED);
        done("locked", h, 1, 1, 0, 0, 1, 1, -1);
        steps(h, s(OPEN, 5), s(CLOSE), s(OPEN, 5), s(CLOSE));
        Due.yes("32 unlocked between", h, h.job());
        Due.wholes(h, 5, Due.INT, 1);
        steps(h, s(OPEN, 5), s(PUT, 5, 9, 0), s(ADD, 5, Due.INT, 0), s(SWAP, 5, 6), s(GUARD), s(OPEN, 5), s(CLOSE), s(END), s(OPEN, 6), s(CLOSE), s(CLOSE));
        Due.yes("32 all other steps go on", h, h.job());
        Due.is("34 total", h.total(), 9);
        Due.holds("32 swapped though locked", h, 6, Due.INT, 9);
        done("the place is locked, not what it held", h, 2, 2, 1, Due.LOCKED, 8, 2, -1);
    }

    private static void refused(String what, int at, int[]... steps) {
        LayerHouse h = new LayerHouse();
        Due.wholes(h, 0, Due.INT, 7);
        steps(h, s(OPEN, 1), s(ADD, 0, Due.INT, 0), s(CLOSE));
        h.job();
        steps(h, steps);
        Due.no("32 none: " + what, h, h.job(), Due.REFUSED);
        done(what, h, 0, 0, 0, 0, 0, 0, at);
        Due.is("34 none: " + what, h.total(), 0);
        Due.holds("32 nothing is done: " + what, h, 0, Due.INT, 7);
        Due.is("32 no step then: " + what, h.step(RAISE, 0, 0, 0), 1);
    }

    private static void none() {
        int[] put = s(PUT, 0, 1, 0);
        refused("a close of none", 1, put, s(CLOSE), put);
        refused("an end of none", 0, s(END));
        refused("an end of a scope", 2, s(OPEN, 0), put, s(END), s(CLOSE));
        refused("a close of a guard", 1, s(GUARD), s(CLOSE), s(END));
        refused("an open that has no close", 2, s(OPEN, 0), put);
        refused("a guard that has no end", 3, put, s(GUARD), put);
        refused("crossed", 2, s(OPEN, 0), s(GUARD), s(CLOSE), s(END));
        refused("one close too many", 2, s(OPEN, 0), s(CLOSE), s(CLOSE), s(END));
    }

    private static void deep() {
        LayerHouse h = new LayerHouse();
        for (int k = 0; k < 8; k++) {
            h.step(k % 2 == 0 ? OPEN : GUARD, k, 0, 0);
        }
        for (int k = 7; k >= 0; k--) {
            h.step(k % 2 == 0 ? CLOSE : END, 0, 0, 0);
        }
        Due.yes("32 8 deep", h, h.job());
        done("8 deep", h, 4, 4, 0, 0, 16, 4, -1);
        for (int k = 0; k < 9; k++) {
            h.step(OPEN, k, 0, 0);
        }
        for (int k = 0; k < 9; k++) {
            h.step(CLOSE, 0, 0, 0);
        }
        Due.no("32 9 deep", h, h.job(), Due.REFUSED);
        done("9 deep", h, 0, 0, 0, 0, 0, 0, 8);
        for (int k = 0; k < 8; k++) {
            h.step(OPEN, k, 0, 0);
        }
        for (int k = 0; k < 8; k++) {
            h.step(CLOSE, 0, 0, 0);
        }
        Due.yes("32 8 scopes", h, h.job());
        done("8 scopes", h, 8, 8, 0, 0, 16, 8, -1);
    }

    private static void fails(LayerHouse h, String what, int fault, int... step) {
        h.step(step[0], step[1], step[2], step[3]);
        Due.no("32 " + what, h, h.job(), fault);
        Due.is("33 " + what, h.done(6), -1);
        Due.is("33 not done: " + what, h.done(4), 0);
        Due.is("33 not caught: " + what, h.done(2), 0);
        steps(h, s(GUARD), step, s(END));
        Due.yes("32 caught " + what, h, h.job());
        Due.is("33 caught " + what, h.done(3), fault);
    }

    private static void move() {
        LayerHouse h = new LayerHouse();
        Due.wholes(h, 0, Due.INT, 1, 2, 3);
        Due.wholes(h, 1, Due.INT, 7, 8, 9);
        h.step(MOVE, 0, 1, 2);
        Due.yes("32 move", h, h.job());
        Due.holds("32 moved", h, 1, Due.INT, 1, 2, 9);
        h.band(2, Due.LONG, 3);
        fails(h, "move refused", Due.REFUSED, MOVE, 12, 0, 1);
        fails(h, "move refused", Due.REFUSED, MOVE, 0, -1, 1);
        fails(h, "move missing", Due.MISSING, MOVE, 0, 8, 1);
        fails(h, "move wrong", Due.WRONG, MOVE, 0, 2, 1);
        fails(h, "move outside", Due.OUTSIDE, MOVE, 0, 1, 4);
        fails(h, "move of fewer than none", Due.OUTSIDE, MOVE, 0, 1, -1);
        h.row(3, 0, 2);
        h.feature(3, 1, 1, 5);
        h.row(4, 2, 2);
        h.feature(4, 0, 3, 6);
        fails(h, "move unfit", Due.UNFIT, MOVE, 3, 4, 2);
        Due.no("32 moved ahead of it", h, h.about(4, 0, 0), Due.MISSING);
    }

    private static void add() {
        LayerHouse h = new LayerHouse();
        Due.wholes(h, 0, Due.LONG, Long.MAX_VALUE, 3);
        Due.floats(h, 1, -0f);
        Due.wholes(h, 2, Due.MARK, 1);
        Due.doubles(h, 3, 1);
        steps(h, s(ADD, 0, Due.LONG, 0), s(ADD, 0, Due.LONG, 1));
        Due.yes("32 add", h, h.job());
        Due.is("34 it wraps", h.total(), Long.MIN_VALUE + 2);
        steps(h, s(ADD, 1, Due.FLOAT, 0), s(ADD, 2, Due.MARK, 0), s(ADD, 3, Due.DOUBLE, 0), s(RAISE));
        Due.no("32 add", h, h.job(), Due.RAISED);
        Due.is("34 of one with a fault", h.total(), Integer.MIN_VALUE + 1 + 0x3ff0000000000000L);
        fails(h, "add refused", Due.REFUSED, ADD, -1, Due.LONG, 0);
        fails(h, "add of no kind", Due.REFUSED, ADD, 8, 8, 0);
        fails(h, "add of no kind", Due.REFUSED, ADD, 0, -1, 0);
        fails(h, "add missing", Due.MISSING, ADD, 8, Due.LONG, 0);
        fails(h, "add wrong", Due.WRONG, ADD, 0, Due.INT, 9);
        fails(h, "add outside", Due.OUTSIDE, ADD, 0, Due.LONG, 2);
        fails(h, "add outside", Due.OUTSIDE, ADD, 0, Due.LONG, -1);
        Due.is("34 nothing is added", h.total(), 0);
    }

    private static void put() {
        LayerHouse h = new LayerHouse();
        for (int kind = 0; kind < 8; kind++) {
            h.band(kind, kind, 2);
            h.step(PUT, kind, -1, 1);
        }
        Due.yes("32 put", h, h.job());
        long[] due = {-1, 65535, -1, -1, -1, 0x7fc00000L, 0x7ff8000000000000L, 1};
        for (int kind = 0; kind < 8; kind++) {
            Due.holds("32 put", h, kind, kind, 0, due[kind]);
        }
        h.table(9, 1, 1);
        fails(h, "put refused", Due.REFUSED, PUT, 12, 0, 0);
        fails(h, "put missing", Due.MISSING, PUT, 8, 0, 0);
        fails(h, "put wrong", Due.WRONG, PUT, 9, 0, 0);
        fails(h, "put outside", Due.OUTSIDE, PUT, 0, 0, 2);
        fails(h, "put outside", Due.OUTSIDE, PUT, 0, 0, -1);
    }

    private static void swap() {
        LayerHouse h = new LayerHouse();
        Due.wholes(h, 0, Due.INT, 5);
        h.step(SWAP, 0, 11, 0);
        Due.yes("32 swap", h, h.job());
        Due.is("32 empty now", h.holds(0), -1);
        Due.holds("32 swapped", h, 11, Due.INT, 5);
        h.step(SWAP, 11, 11, 0);
        Due.yes("32 with itself", h, h.job());
        Due.holds("32 with itself", h, 11, Due.INT, 5);
        fails(h, "swap refused", Due.REFUSED, SWAP, 12, 0, 0);
        fails(h, "swap refused", Due.REFUSED, SWAP, 0, 12, 0);
        h.step(RAISE, 0, 0, 0);
        Due.no("32 raise", h, h.job(), Due.RAISED);
    }

    private static void whatWasDoneStays() {
        LayerHouse h = new LayerHouse();
        Due.wholes(h, 0, Due.INT, 1, 2);
        steps(h, s(PUT, 0, 8, 0), s(OPEN, 0), s(PUT, 0, 9, 1), s(PUT, 0, 9, 2), s(PUT, 0, 7, 0), s(CLOSE), s(PUT, 0, 7, 1));
        Due.no("32 stays", h, h.job(), Due.OUTSIDE);
        Due.holds("32 stays", h, 0, Due.INT, 8, 9);
        done("stays", h, 1, 1, 0, 0, 3, 1, -1);
    }
}
