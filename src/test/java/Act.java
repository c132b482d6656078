/** The acts of the document, with what it says of their arguments. */
final class Act {
    /** One argument: its range, the things that a place is taken for, and a value that has no FAULT. */
    static final class Arg {
        final String name;
        final int first;
        final int last;
        final int good;
        private final int taken;

        private Arg(String name, int first, int last, int good, int taken) {
            this.name = name;
            this.first = first;
            this.last = last;
            this.good = good;
            this.taken = taken;
        }

        boolean isPlace() {
            return taken != 0;
        }

        boolean isRanged() {
            return first != Integer.MIN_VALUE;
        }

        /** Whether what a place holds is what it is taken for. */
        boolean takes(int tag) {
            return (taken >> (tag + 1) & 1) == 1;
        }

        /** What a place holds that is taken for the right thing. */
        int goodTag() {
            int[] tried = {Due.INT, Due.MARK, Stock.ROW, Stock.TABLE, Stock.SCALE};
            int found = 0;
            while (!takes(tried[found])) {
                found++;
            }
            return tried[found];
        }

        /** The FAULT of a place that holds this. */
        int lack(int tag) {
            return takes(tag) ? 0 : tag == Stock.EMPTY ? Due.MISSING : Due.WRONG;
        }
    }

    private static Arg place(String name, int taken) {
        return new Arg(name, 0, 11, 0, taken);
    }

    private static Arg range(String name, int first, int last, int good) {
        return new Arg(name, first, last, good, 0);
    }

    private static Arg free(String name, int good) {
        return new Arg(name, Integer.MIN_VALUE, Integer.MAX_VALUE, good, 0);
    }

    private static Arg op(int last) {
        return range("op", 0, last, 0);
    }

    // The things that a place is taken for, a bit for each tag from EMPTY on.
    private static final Arg TO = place("a place to be given something", 0x7fff);
    private static final Arg INTS = place("a place taken for INTS", 0x10);
    private static final Arg NUMBERS = place("a place taken for NUMBERS", 0xfe);
    private static final Arg MARKS = place("a place taken for MARKS", 0x100);
    private static final Arg CELLS = place("a place taken for a BAND", 0x1fe);
    private static final Arg WITH_BITS = place("a place taken for INTS, LONGS, FLOATS or DOUBLES", 0xf0);
    private static final Arg ROW = place("a place taken for a ROW", 0x1e00);
    private static final Arg TABLE = place("a place taken for a TABLE", 0x2000);
    private static final Arg SCALE = place("a place taken for a SCALE", 0x4000);
    private static final Arg MOVED = place("a place taken for a BAND, ROW or TABLE", 0x3ffe);

    private static final Arg KIND = range("kind", 0, 7, Due.INT);
    private static final Arg SORT = range("sort", 0, 3, 3);
    private static final Arg READER = range("reader", 0, 4, 0);
    private static final Arg WIDTH = range("w", 1, 400, 1);
    private static final Arg INDEX = free("index", 0);
    private static final Arg ANY = free("any number", 0);

    static final Act[] ALL = {
        new Act(4, "band", TO, KIND, range("n", -400, 400, 3)),
        new Act(5, "row", TO, SORT, range("n", -40, 40, 3)),
        new Act(6, "table", TO, range("n", -20, 20, 3), range("m", -20, 21, 2)),
        new Act(7, "scale", TO, ANY, ANY),
        new Act(8, "clear", TO),
        new Act(9, "keep", INTS, TO),
        new Act(10, "size", INTS, KIND),
        new Act(11, "get", INTS, KIND, INDEX),
        new Act(12, "set", INTS, KIND, INDEX, ANY),
        new Act(13, "feature", ROW, INDEX, SORT, ANY),
        new Act(14, "about", ROW, INDEX, range("what", 0, 4, 0)),
        new Act(15, "entry", TABLE, INDEX, INDEX),
        new Act(16, "enter", TABLE, INDEX, INDEX, ANY),
        new Act(17, "line", TABLE, INDEX, range("n", -1, 20, 2)),
        new Act(18, "move", MOVED, INDEX, MOVED, INDEX, free("n", 1)),
        new Act(19, "reckon", op(6), NUMBERS, NUMBERS, TO),
        new Act(20, "compare", op(5), NUMBERS, NUMBERS, TO),
        new Act(21, "mark", op(3), MARKS, MARKS, TO),
        new Act(22, "choose", MARKS, NUMBERS, NUMBERS, TO),
        new Act(23, "turn", KIND, CELLS, TO),
        new Act(24, "bits", WITH_BITS, TO),
        new Act(25, "math", op(11), NUMBERS, TO),
        new Act(26, "fuse", NUMBERS, NUMBERS, NUMBERS, TO),
        new Act(27, "apply", NUMBERS, SCALE, TO),
        new Act(28, "stat", op(5), NUMBERS),
        new Act(29, "sample", READER, NUMBERS, WIDTH, ANY, ANY),
        new Act(30, "stepOf", READER, WIDTH),
        new Act(31, "step", range("code", 0, 8, 4), ANY, ANY, ANY)};

    final int promise;
    final String name;
    final Arg[] args;

    private Act(int promise, String name, Arg... args) {
        this.promise = promise;
        this.name = name;
        this.args = args;
    }

    static Act named(String name) {
        for (Act act : ALL) {
            if (act.name.equals(name)) {
                return act;
            }
        }
        throw new IllegalArgumentException(name);
    }

    /** "How many cells the latest act went through, if it was one that reckons (reckon .. stat)". */
    boolean reckons() {
        return promise >= 19 && promise <= 28;
    }

    boolean hasIndex() {
        for (Arg arg : args) {
            if (arg == INDEX) {
                return true;
            }
        }
        return false;
    }

    /** Arguments without a FAULT, each place another one: the k-th argument is the place k. */
    long[] good() {
        long[] a = new long[args.length];
        for (int k = 0; k < a.length; k++) {
            a[k] = args[k].isPlace() ? k : args[k].good;
        }
        return a;
    }

    /** Puts into the places of these arguments what they are taken for, 3 cells each. */
    void stock(Calls c, long[] a) {
        for (int k = 0; k < a.length; k++) {
            if (args[k].isPlace()) {
                Stock.put(c, (int) a[k], goodTag(k, a), 3);
            }
        }
    }

    /** A place that is taken for a BAND of a KIND holds one of the KIND that is given. */
    private int goodTag(int k, long[] a) {
        boolean isGivenKind = args[k] == INTS && args.length > 1 && args[1] == KIND;
        return isGivenKind && a[1] >= 0 && a[1] < 8 ? (int) a[1] : args[k].goodTag();
    }

    @Override
    public String toString() {
        return promise + " " + name;
    }
}
