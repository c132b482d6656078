/** JOBS that are none, that end with a FAULT, and that catch it; STEPS whose numbers are not as said. */
public final class JobBoundsTest {
    private static final int OPEN = 0;
    private static final int CLOSE = 1;
    private static final int GUARD = 2;
    private static final int END = 3;
    private static final int MOVE = 4;
    private static final int ADD = 5;
    private static final int PUT = 6;
    private static final int RAISE = 7;
    private static final int SWAP = 8;
    private static final int LEAST = Integer.MIN_VALUE;
    private static final int MOST = Integer.MAX_VALUE;

    public static void main(String[] args) {
        jobsThatAreNone();
        noneTellsNothingElse();
        noStepThen();
        refusedNumbers();
        refusedAheadOfOthers();
        numbersThatAreNotAsked();
        notComeToBeDone();
        lacksInSteps();
        doneAheadStays();
        skippedBehindFault();
        locks();
        lockedBeginsNone();
        unlockedByFault();
        othersGoOnWithLocked();
        lastOfCaught();
        mostOpen();
        latestJobAlone();
        JobShapes.compareAll();
        Due.end("JobBoundsTest");
    }

    private static int[] s(int... step) {
        return step;
    }

    /** Place 0 holds INTS, 1 a ROW, 2 a SCALE; the others are EMPTY. */
    private static Calls house() {
        Calls c = new Calls();
        c.give(0, Due.INT, 7, 8);
        Stock.put(c, 1, Stock.ROW, 2);
        Stock.put(c, 2, Stock.SCALE, 0);
        return c;
    }

    private static void isNone(String why, int at, int[]... steps) {
        Calls c = house();
        String held = c.places();
        c.steps(steps);
        c.ask("stat", 0, 0);
        c.no("32 " + why, Due.REFUSED, "job");
        c.went("32 " + why, 0);
        c.done("33 " + why, 0, 0, 0, 0, 0, 0, at);
        Due.is("34 " + why, c.ask("total"), 0);
        Due.is("32 nothing is done, " + why, c.places().equals(held) ? 1 : 0, 1);
        c.answers("32 there is no STEP then, " + why, 1, "step", RAISE, 0, 0, 0);
    }

    /** "each CLOSE, END belongs to the innermost one that is begun, which must be of its kind; all must be ended". */
    private static void jobsThatAreNone() {
        int[] put = s(PUT, 0, 1, 0);
        int[] add = s(ADD, 0, Due.INT, 0);
        isNone("a CLOSE alone", 0, s(CLOSE));
        isNone("an END alone", 0, s(END));
        isNone("an OPEN alone", 1, s(OPEN, 5));
        isNone("a GUARD alone", 1, s(GUARD));
        isNone("a CLOSE behind others", 2, put, add, s(CLOSE), put);
        isNone("an END behind others", 2, put, add, s(END), put);
        isNone("an END in a SCOPE", 2, s(OPEN, 5), put, s(END), s(CLOSE));
        isNone("a CLOSE in a GUARD", 2, s(GUARD), put, s(CLOSE), s(END));
        isNone("crossed", 2, s(OPEN, 5), s(GUARD), s(CLOSE), s(END));
        isNone("crossed", 2, s(GUARD), s(OPEN, 5), s(END), s(CLOSE));
        isNone("one CLOSE too many", 2, s(OPEN, 5), s(CLOSE), s(CLOSE));
        isNone("one END too many", 2, s(GUARD), s(END), s(END));
        isNone("one CLOSE too few", 4, s(OPEN, 5), s(OPEN, 6), put, s(CLOSE));
        isNone("one END too few", 3, s(GUARD), s(GUARD), s(END));
        isNone("the first of two", 1, put, s(CLOSE), s(END));
        isNone("not ended, behind what would be a FAULT", 3, s(RAISE), s(OPEN, 99), put);
        isNone("though it would end ahead of it", 3, put, s(RAISE), put, s(END));
        isNone("though a SCOPE would be LOCKED", 4, s(OPEN, 5), s(OPEN, 5), s(CLOSE), s(CLOSE), s(CLOSE));
    }

    /** "6 the number of the STEP with which it was none (all others are 0 then)", whatever the JOB ahead of it came to. */
    private static void noneTellsNothingElse() {
        Calls c = house();
        c.steps(s(OPEN, 5), s(ADD, 0, Due.INT, 0), s(GUARD), s(RAISE), s(END), s(CLOSE));
        c.yes("32", "job");
        c.done("33", 1, 1, 1, Due.RAISED, 4, 1, -1);
        Due.is("34", c.ask("total"), 7);
        c.steps(s(ADD, 0, Due.INT, 0), s(GUARD));
        c.done("33 STEPS change nothing of it", 1, 1, 1, Due.RAISED, 4, 1, -1);
        c.no("32 none", Due.REFUSED, "job");
        c.done("33 none", 0, 0, 0, 0, 0, 0, 2);
        Due.is("34 none", c.ask("total"), 0);
        c.steps(s(ADD, 0, Due.INT, 1));
        c.yes("32 one again", "job");
        c.done("33 one again", 0, 0, 0, 0, 1, 0, -1);
        Due.is("34 one again", c.ask("total"), 8);
    }

    /** "There is no STEP then, in any case." */
    private static void noStepThen() {
        int[][][] jobs = {{}, {s(SWAP, 3, 4)}, {s(RAISE), s(SWAP, 3, 4)}, {s(GUARD), s(RAISE), s(END)}, {s(END), s(RAISE)}, {s(OPEN, 0)},
            {s(SWAP, 12, 0)}, {s(OPEN, 3), s(OPEN, 3), s(CLOSE), s(CLOSE)}};
        for (int[][] job : jobs) {
            Calls c = house();
            c.steps(job);
            c.ask("job");
            c.yes("32 no STEP then", "job");
            c.done("33 no STEP then", 0, 0, 0, 0, 0, 0, -1);
            c.answers("32 no STEP then", 1, "step", SWAP, 0, 0, 0);
        }
    }

    private static void isRefused(String why, int... step) {
        hasFault(why, Due.REFUSED, step);
    }

    /** The FAULT in a STEP: without a GUARD the JOB ends with it, else the GUARD has CAUGHT it. */
    private static void hasFault(String why, int fault, int... step) {
        boolean isScope = step[0] == OPEN;
        Calls c = house();
        String held = c.places();
        c.steps(s(SWAP, 9, 9), step);
        c.steps(isScope ? new int[][] {s(CLOSE), s(SWAP, 0, 9)} : new int[][] {s(SWAP, 0, 9)});
        c.ask("stat", 0, 0);
        c.no("32 " + why, fault, "job");
        c.went("32 " + why, 0);
        c.done("33 " + why, 0, 0, 0, 0, 1, 0, -1);
        Due.is("34 " + why, c.ask("total"), 0);
        Due.is("32 nothing else is done, " + why, c.places().equals(held) ? 1 : 0, 1);
        c.steps(s(GUARD), step);
        c.steps(isScope ? new int[][] {s(CLOSE), s(END)} : new int[][] {s(END)});
        c.steps(s(SWAP, 9, 9));
        c.yes("32 caught, " + why, "job");
        c.done("33 caught, " + why, 0, 0, 1, fault, 2, 0, -1);
        Due.is("32 nothing else is done, " + why, c.places().equals(held) ? 1 : 0, 1);
    }

    /** "A place that is not 0 .. 11, a KIND not 0 .. 7 in a STEP that comes to be done is a FAULT 9 in it, as any other there." */
    private static void refusedNumbers() {
        int[] places = {-1, 12, LEAST, MOST};
        for (int p : places) {
            isRefused("OPEN", OPEN, p, 0, 0);
            isRefused("MOVE from", MOVE, p, 0, 1);
            isRefused("MOVE to", MOVE, 0, p, 1);
            isRefused("MOVE", MOVE, p, p, 1);
            isRefused("ADD", ADD, p, Due.INT, 0);
            isRefused("PUT", PUT, p, 5, 0);
            isRefused("SWAP", SWAP, p, 0, 0);
            isRefused("SWAP", SWAP, 0, p, 0);
            isRefused("SWAP", SWAP, p, p, 0);
        }
        int[] kinds = {-1, 8, LEAST, MOST};
        for (int kind : kinds) {
            isRefused("ADD of a KIND", ADD, 0, kind, 0);
        }
        for (int p = 0; p < 12; p++) {
            Calls c = new Calls();
            c.give(p, Due.BYTE, 3);
            c.steps(s(OPEN, p), s(MOVE, p, p, 1), s(ADD, p, Due.BYTE, 0), s(PUT, p, 5, 0), s(SWAP, p, 11 - p), s(SWAP, 11 - p, p), s(CLOSE));
            c.yes("32 place " + p, "job");
            Due.is("34 place " + p, c.ask("total"), 3);
            c.cells("32 place " + p, p, Due.BYTE, 5);
        }
        for (int kind = 0; kind < 8; kind++) {
            Calls c = new Calls();
            c.give(3, kind, 1);
            c.steps(s(ADD, 3, kind, 0));
            c.yes("32 KIND " + kind, "job");
            Due.is("34 KIND " + kind, c.ask("total"), 1);
        }
    }

    /** REFUSED "is asked ahead of all others", in a STEP, too. */
    private static void refusedAheadOfOthers() {
        isRefused("MOVE from an EMPTY place", MOVE, 8, 12, 1);
        isRefused("MOVE to an EMPTY place", MOVE, -1, 8, 1);
        isRefused("MOVE of a SCALE", MOVE, 2, 12, 1);
        isRefused("MOVE of fewer than none", MOVE, 12, 0, -1);
        isRefused("ADD of no KIND in an EMPTY place", ADD, 8, 8, 0);
        isRefused("ADD of no KIND in a SCALE", ADD, 2, -1, 0);
        isRefused("ADD of no KIND outside", ADD, 0, 8, 99);
        isRefused("ADD of no place, no KIND", ADD, 12, 8, -1);
        isRefused("PUT outside of no place", PUT, 12, 0, -1);
        isRefused("SWAP with an EMPTY place", SWAP, 8, 12, 0);
        Calls c = new Calls();
        c.steps(s(OPEN, 0), s(GUARD), s(OPEN, 12), s(CLOSE), s(END), s(CLOSE));
        c.yes("32", "job");
        c.done("33 no LOCKED of what is no place", 1, 1, 1, Due.REFUSED, 3, 1, -1);
    }

    /** Numbers that a code has no use for are never asked. */
    private static void numbersThatAreNotAsked() {
        int[] any = {LEAST, -1, 12, 400, MOST};
        for (int n : any) {
            Calls c = house();
            c.steps(s(OPEN, 3, n, n), s(CLOSE, n, n, n), s(GUARD, n, n, n), s(SWAP, 3, 4, n), s(RAISE, n, n, n), s(END, n, n, n), s(PUT, 0, n, 1));
            c.yes("32 numbers that are not asked", "job");
            c.done("33 numbers that are not asked", 1, 1, 1, Due.RAISED, 5, 1, -1);
            c.cells("32 BITS have no range", 0, Due.INT, 7, n);
        }
    }

    /** "in a STEP that comes to be done": what is skipped has no FAULT. */
    private static void notComeToBeDone() {
        int[] bad = s(SWAP, 12, -1);
        Calls c = house();
        c.steps(s(GUARD), s(RAISE), bad, s(OPEN, 99), s(ADD, 0, 9, 0), s(CLOSE), s(END), s(ADD, 0, Due.INT, 1));
        c.yes("32 behind a FAULT in a GUARD", "job");
        c.done("33 behind a FAULT in a GUARD", 0, 0, 1, Due.RAISED, 2, 0, -1);
        Due.is("34 behind a FAULT in a GUARD", c.ask("total"), 8);
        c.steps(s(RAISE), bad);
        c.no("32 behind a FAULT", Due.RAISED, "job");
        c.steps(s(OPEN, 3), s(OPEN, 3), bad, s(CLOSE), bad, s(CLOSE), bad);
        c.no("32 behind a LOCKED one", Due.LOCKED, "job");
        c.steps(bad, s(RAISE));
        c.no("32 it comes to be done first", Due.REFUSED, "job");
    }

    private static void lacksInSteps() {
        hasFault("MOVE from an EMPTY place", Due.MISSING, MOVE, 8, 0, 1);
        hasFault("MOVE to an EMPTY place", Due.MISSING, MOVE, 0, 8, 1);
        hasFault("MOVE of a SCALE to an EMPTY place", Due.MISSING, MOVE, 2, 8, 1);
        hasFault("MOVE of a SCALE", Due.WRONG, MOVE, 2, 2, 0);
        hasFault("MOVE of a BAND to a ROW", Due.WRONG, MOVE, 0, 1, 0);
        hasFault("MOVE of a ROW to a BAND", Due.WRONG, MOVE, 1, 0, -1);
        hasFault("MOVE of fewer than none", Due.OUTSIDE, MOVE, 0, 0, -1);
        hasFault("MOVE of too many", Due.OUTSIDE, MOVE, 0, 0, 3);
        hasFault("ADD of an EMPTY place", Due.MISSING, ADD, 8, Due.INT, 0);
        hasFault("ADD of another KIND", Due.WRONG, ADD, 0, Due.LONG, 99);
        hasFault("ADD of a ROW", Due.WRONG, ADD, 1, Due.INT, 0);
        hasFault("ADD of a SCALE", Due.WRONG, ADD, 2, Due.DOUBLE, 0);
        hasFault("ADD outside", Due.OUTSIDE, ADD, 0, Due.INT, 2);
        hasFault("PUT in an EMPTY place", Due.MISSING, PUT, 8, 5, -1);
        hasFault("PUT in a ROW", Due.WRONG, PUT, 1, 5, 0);
        hasFault("PUT in a SCALE", Due.WRONG, PUT, 2, 5, -1);
        hasFault("PUT outside", Due.OUTSIDE, PUT, 0, 5, 2);
        hasFault("PUT outside", Due.OUTSIDE, PUT, 0, 5, -1);
        hasFault("RAISE", Due.RAISED, RAISE, 0, 0, 0);
    }

    /** "What was done ahead of a FAULT stays": without a GUARD, in the GUARD that catches it, in SCOPES that are LEFT by it. */
    private static void doneAheadStays() {
        int[][] ahead = {s(PUT, 0, 50, 0), s(PUT, 0, 60, 1), s(ADD, 0, Due.INT, 0), s(MOVE, 0, 3, 1), s(SWAP, 0, 4)};
        int[][][] around = {{}, {s(GUARD)}, {s(OPEN, 0)}, {s(GUARD), s(OPEN, 3), s(OPEN, 4)}, {s(OPEN, 0), s(GUARD)}, {s(GUARD), s(GUARD)}};
        for (int[][] begins : around) {
            Calls c = new Calls();
            c.give(0, Due.INT, 7, 8);
            c.give(3, Due.INT, 1, 2);
            c.steps(begins);
            c.steps(ahead);
            c.steps(s(RAISE), s(PUT, 4, 99, 0), s(ADD, 4, Due.INT, 0), s(SWAP, 3, 4));
            for (int k = begins.length - 1; k >= 0; k--) {
                c.steps(s(begins[k][0] == OPEN ? CLOSE : END));
            }
            c.ask("job");
            Due.is("34 what was done stays", c.ask("total"), 50);
            Due.is("32 SWAP stays", c.ask("holds", 0), -1);
            c.cells("32 PUT stays", 4, Due.INT, 50, 60);
            c.cells("32 MOVE stays", 3, Due.INT, 50, 2);
        }
    }

    /** "the JOB goes on behind its END". */
    private static void skippedBehindFault() {
        Calls c = house();
        c.steps(s(GUARD), s(GUARD), s(RAISE), s(PUT, 0, 1, 0), s(END), s(PUT, 0, 2, 1), s(RAISE), s(PUT, 0, 3, 0), s(END), s(ADD, 0, Due.INT, 1));
        c.yes("32 two GUARDS", "job");
        c.done("33 two GUARDS", 0, 0, 2, Due.RAISED, 4, 0, -1);
        Due.is("34 two GUARDS", c.ask("total"), 2);
        c.cells("32 two GUARDS", 0, Due.INT, 7, 2);
        c.steps(s(GUARD), s(END), s(RAISE), s(GUARD), s(END));
        c.no("32 a GUARD that has ended catches none", Due.RAISED, "job");
        c.done("33 a GUARD that has ended catches none", 0, 0, 0, 0, 2, 0, -1);
        c.steps(s(GUARD), s(GUARD), s(END), s(RAISE), s(END));
        c.yes("32 the GUARD around catches it", "job");
        c.done("33 the GUARD around catches it", 0, 0, 1, Due.RAISED, 3, 0, -1);
    }

    /** "(LOCKED, if it is already locked, by another SCOPE around)": each place by itself, and no longer behind its CLOSE. */
    private static void locks() {
        for (int p = 0; p < 12; p++) {
            for (int q = 0; q < 12; q++) {
                Calls c = new Calls();
                c.steps(s(OPEN, p), s(OPEN, q), s(CLOSE), s(CLOSE));
                if (p == q) {
                    c.no("32 locked", Due.LOCKED, "job");
                    c.done("33 locked", 1, 1, 0, 0, 1, 1, -1);
                } else {
                    c.yes("32 not locked", "job");
                    c.done("33 not locked", 2, 2, 0, 0, 4, 2, -1);
                }
            }
        }
        Calls c = new Calls();
        c.steps(s(OPEN, 3), s(CLOSE), s(OPEN, 3), s(OPEN, 4), s(CLOSE), s(OPEN, 4), s(CLOSE), s(CLOSE), s(OPEN, 4), s(OPEN, 3), s(CLOSE), s(CLOSE));
        c.yes("32 unlocked by CLOSE", "job");
        c.done("33 unlocked by CLOSE", 6, 6, 0, 0, 12, 2, -1);
        c.steps(s(OPEN, 3), s(OPEN, 4), s(OPEN, 5), s(OPEN, 3), s(CLOSE), s(CLOSE), s(CLOSE), s(CLOSE));
        c.no("32 locked far around", Due.LOCKED, "job");
        c.done("33 locked far around", 3, 3, 0, 0, 3, 3, -1);
    }

    /** "(An OPEN that is LOCKED begins no SCOPE: what is in it is not done, nor is it LEFT.)" */
    private static void lockedBeginsNone() {
        Calls c = house();
        c.steps(s(OPEN, 0), s(GUARD), s(OPEN, 0), s(PUT, 0, 1, 0), s(GUARD), s(END), s(CLOSE), s(PUT, 0, 2, 0), s(END), s(GUARD), s(OPEN, 0), s(CLOSE), s(END),
            s(CLOSE));
        c.yes("32 LOCKED", "job");
        c.done("33 LOCKED, and the place is locked still", 1, 1, 2, Due.LOCKED, 4, 1, -1);
        c.cells("32 what is in it is not done", 0, Due.INT, 7, 8);
    }

    /** "the SCOPES between are LEFT, the innermost first, each unlocking its place"; those around the GUARD stay. */
    private static void unlockedByFault() {
        Calls c = new Calls();
        c.steps(s(OPEN, 1), s(GUARD), s(OPEN, 2), s(OPEN, 3), s(RAISE), s(CLOSE), s(CLOSE), s(END), s(OPEN, 2), s(OPEN, 3), s(CLOSE), s(CLOSE), s(GUARD), s(OPEN, 1),
            s(CLOSE), s(END), s(CLOSE), s(OPEN, 1), s(CLOSE));
        c.yes("32 unlocked by a FAULT", "job");
        c.done("33 unlocked by a FAULT", 6, 6, 2, Due.LOCKED, 12, 3, -1);
        c.steps(s(OPEN, 1), s(OPEN, 2), s(RAISE), s(CLOSE), s(CLOSE));
        c.no("32 all SCOPES left", Due.RAISED, "job");
        c.done("33 all SCOPES left", 2, 2, 0, 0, 2, 2, -1);
        c.steps(s(OPEN, 2), s(OPEN, 1), s(CLOSE), s(CLOSE));
        c.yes("32 unlocked for the next JOB", "job");
        c.done("33 unlocked for the next JOB", 2, 2, 0, 0, 4, 2, -1);
    }

    /** "A lock hinders a second one alone; all other STEPS go on with a locked place as with any." */
    private static void othersGoOnWithLocked() {
        Calls c = house();
        c.give(3, Due.INT, 4, 5);
        c.steps(s(OPEN, 0), s(OPEN, 3), s(PUT, 0, 9, 0), s(MOVE, 0, 3, 1), s(ADD, 3, Due.INT, 0), s(SWAP, 0, 6), s(ADD, 6, Due.INT, 1), s(OPEN, 6), s(CLOSE),
            s(GUARD), s(OPEN, 0), s(CLOSE), s(END), s(CLOSE), s(CLOSE));
        c.yes("32 locked places", "job");
        c.done("33 the places are locked, not what they held", 3, 3, 1, Due.LOCKED, 12, 3, -1);
        Due.is("34 locked places", c.ask("total"), 17);
        c.cells("32 locked places", 6, Due.INT, 9, 8);
        c.cells("32 locked places", 3, Due.INT, 9, 5);
        Due.is("32 locked places", c.ask("holds", 0), -1);
    }

    /** "2 FAULTS that GUARDS have CAUGHT, 3 the kind of the last one of these": not of the one that ended the JOB. */
    private static void lastOfCaught() {
        Calls c = house();
        c.steps(s(GUARD), s(RAISE), s(END), s(GUARD), s(ADD, 0, Due.INT, 9), s(END), s(ADD, 8, Due.INT, 0));
        c.no("32", Due.MISSING, "job");
        c.done("33 caught", 0, 0, 2, Due.OUTSIDE, 2, 0, -1);
        int[][] faults = {s(ADD, 8, 3, 0), s(ADD, 1, 3, 0), s(ADD, 0, 3, 2), s(RAISE), s(SWAP, 12, 0)};
        int[] kinds = {Due.MISSING, Due.WRONG, Due.OUTSIDE, Due.RAISED, Due.REFUSED};
        for (int k = 0; k < faults.length; k++) {
            c.steps(s(GUARD), faults[(k + 1) % 5], s(END), s(GUARD), faults[k], s(END));
            c.yes("32", "job");
            c.done("33 the last of two", 0, 0, 2, kinds[k], 2, 0, -1);
        }
    }

    /** "5 the most SCOPES that were open at once": GUARDS are none, and one that is LEFT is not open. */
    private static void mostOpen() {
        Calls c = new Calls();
        c.steps(s(OPEN, 0), s(OPEN, 1), s(CLOSE), s(OPEN, 2), s(CLOSE), s(CLOSE), s(OPEN, 3), s(CLOSE));
        c.yes("32", "job");
        c.done("33 two at once", 4, 4, 0, 0, 8, 2, -1);
        c.steps(s(GUARD), s(OPEN, 0), s(GUARD), s(OPEN, 1), s(RAISE), s(CLOSE), s(END), s(OPEN, 2), s(CLOSE), s(CLOSE), s(END));
        c.yes("32", "job");
        c.done("33 one was LEFT by a FAULT", 3, 3, 1, Due.RAISED, 8, 2, -1);
        c.steps(s(OPEN, 0), s(GUARD), s(OPEN, 0), s(CLOSE), s(END), s(CLOSE));
        c.yes("32", "job");
        c.done("33 one that is LOCKED was not open", 1, 1, 1, Due.LOCKED, 3, 1, -1);
    }

    /** "Of the latest job()": no other act, and no refused one, changes what it came to. */
    private static void latestJobAlone() {
        for (Act act : Act.ALL) {
            Calls c = new Calls();
            c.give(10, Due.INT, 7);
            c.steps(s(OPEN, 5), s(ADD, 10, Due.INT, 0), s(GUARD), s(RAISE), s(END), s(CLOSE));
            c.ask("job");
            act.stock(c, act.good());
            c.ask(act.name, act.good());
            c.done("33 behind " + act, 1, 1, 1, Due.RAISED, 4, 1, -1);
            Due.is("34 behind " + act, c.ask("total"), 7);
        }
    }
}
