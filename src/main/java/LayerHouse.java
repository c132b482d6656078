/**
 * A house of map layers. The document's words in capitals (BAND, ROW, FAULT ..) are meant as it tells them.
 *
 * FLOATS and DOUBLES are held and reckoned as their bits in longs, because the language rules forbid arithmetic that
 * may answer NaN, and every answer is due bit for bit.
 */
public final class LayerHouse {
    public static final int NONE = -1;

    private static final int PLACES = 12;
    private static final int MOST_CELLS = 400;
    private static final int MOST_FEATURES = 40;
    private static final int MOST_LINES = 20;
    private static final int MOST_NUMBERS = 20;
    private static final int VOID_LINES = 21;
    private static final int MOST_STEPS = 60;
    private static final int MOST_DEEP = 8;

    private static final int FINE = 0;
    private static final int MISSING = 1;
    private static final int WRONG = 2;
    private static final int OUTSIDE = 3;
    private static final int NEGATIVE = 4;
    private static final int UNFIT = 5;
    private static final int ZERO = 6;
    private static final int LOCKED = 7;
    private static final int RAISED = 8;
    private static final int REFUSED = 9;

    private static final int BYTE = 0;
    private static final int SIGN = 1;
    private static final int SHORT = 2;
    private static final int INT = 3;
    private static final int LONG = 4;
    private static final int FLOAT = 5;
    private static final int DOUBLE = 6;
    private static final int MARK = 7;

    private static final int LINE_SORT = 1;
    private static final int POINT_SORT = 2;
    private static final int PEAK_SORT = 3;

    private static final int TAG_OF_ROWS = 8;
    private static final int TAG_OF_TABLES = 12;
    private static final int TAG_OF_SCALES = 13;

    private static final int PLUS = 0;
    private static final int MINUS = 1;
    private static final int TIMES = 2;
    private static final int OVER = 3;
    private static final int REST = 4;
    private static final int MIN = 5;
    private static final int MAX = 6;

    private static final int NOT_OF_FIRST = 3;

    private static final int ULP = 6;
    private static final int NEXT = 7;
    private static final int EXPONENT = 9;
    private static final int NEAREST = 11;

    private static final int HELD = 1;
    private static final int ROUND = 2;
    private static final int MIRROR = 3;
    private static final int LINEAR = 4;

    private static final int OPEN = 0;
    private static final int CLOSE = 1;
    private static final int GUARD = 2;
    private static final int END = 3;
    private static final int MOVE = 4;
    private static final int ADD = 5;
    private static final int PUT = 6;
    private static final int RAISE = 7;
    private static final int SWAP = 8;

    private static final int BEGUN = 0;
    private static final int LEFT = 1;
    private static final int CAUGHT = 2;
    private static final int LAST_CAUGHT = 3;
    private static final int STEPS_DONE = 4;
    private static final int MOST_OPEN = 5;
    private static final int STUCK_AT = 6;

    private final Thing[] places = new Thing[PLACES];
    private final Job plan = new Job();
    private int told;
    private int gone;

    public LayerHouse() {
    }

    public int told() {
        return told;
    }

    public int holds(int p) {
        Thing thing = thingIn(p);
        return thing == null ? NONE : thing.tag;
    }

    // ---- making

    public boolean band(int p, int kind, int n) {
        if (!isPlace(p) || !isKind(kind) || !isWithin(n, -MOST_CELLS, MOST_CELLS)) {
            return tell(REFUSED);
        }
        return n < 0 ? tell(NEGATIVE) : put(p, new Band(kind, n));
    }

    public boolean row(int p, int sort, int n) {
        if (!isPlace(p) || !isWithin(sort, 0, PEAK_SORT) || !isWithin(n, -MOST_FEATURES, MOST_FEATURES)) {
            return tell(REFUSED);
        }
        return n < 0 ? tell(NEGATIVE) : put(p, new Shelf(TAG_OF_ROWS + sort, n));
    }

    public boolean table(int p, int n, int m) {
        if (!isPlace(p) || !isWithin(n, -MOST_LINES, MOST_LINES) || !isWithin(m, -MOST_NUMBERS, VOID_LINES)) {
            return tell(REFUSED);
        }
        if (n < 0 || m < 0) {
            return tell(NEGATIVE);
        }
        Shelf made = new Shelf(TAG_OF_TABLES, n);
        for (int i = 0; i < n && m != VOID_LINES; i++) {
            made.items[i] = new Line(m);
        }
        return put(p, made);
    }

    public boolean scale(int p, long gain, long offset) {
        return isPlace(p) ? put(p, new Scale(gain, offset)) : tell(REFUSED);
    }

    public boolean clear(int p) {
        return isPlace(p) ? put(p, null) : tell(REFUSED);
    }

    public boolean keep(int p, int q) {
        if (!isPlace(p) || !isPlace(q)) {
            return tell(REFUSED);
        }
        Band kept = bandIn(p, INT);
        if (kept == null) {
            return tell(lackOf(p));
        }
        Band copy = new Band(INT, kept.cells.length);
        System.arraycopy(kept.cells, 0, copy.cells, 0, kept.cells.length);
        return put(q, copy);
    }

    // ---- cells

    public int size(int p, int kind) {
        if (!isPlace(p) || !isKind(kind)) {
            return none(REFUSED);
        }
        Band band = bandIn(p, kind);
        if (band == null) {
            return none(lackOf(p));
        }
        tell(FINE);
        return band.cells.length;
    }

    public long get(int p, int kind, int i) {
        int fault = faultOfCell(p, kind, i);
        Band band = bandIn(p, kind);
        if (fault != FINE || band == null) {
            return none(fault);
        }
        tell(FINE);
        return band.cellAt(i);
    }

    public boolean set(int p, int kind, int i, long bits) {
        int fault = faultOfCell(p, kind, i);
        Band band = bandIn(p, kind);
        if (fault == FINE && band != null) {
            band.give(i, bits);
        }
        return tell(fault);
    }

    public boolean feature(int p, int i, int sort, int number) {
        if (!isPlace(p) || !isWithin(sort, 0, PEAK_SORT)) {
            return tell(REFUSED);
        }
        Shelf shelf = rowIn(p);
        if (shelf == null) {
            return tell(lackOf(p));
        }
        if (!shelf.reaches(i)) {
            return tell(OUTSIDE);
        }
        Feature made = sort == 0 ? null : new Feature(sort, number);
        if (!shelf.takes(made)) {
            return tell(UNFIT);
        }
        shelf.items[i] = made;
        return tell(FINE);
    }

    public int about(int p, int i, int what) {
        if (!isPlace(p) || !isWithin(what, 0, 4)) {
            return none(REFUSED);
        }
        Shelf shelf = rowIn(p);
        if (shelf == null) {
            return none(lackOf(p));
        }
        if (!shelf.reaches(i)) {
            return none(OUTSIDE);
        }
        if (shelf.items[i] instanceof Feature f) {
            tell(f.isTakenAs(what) ? FINE : WRONG);
            return told != FINE ? NONE : what == 0 ? f.sort : f.number;
        }
        return none(MISSING);
    }

    public int entry(int p, int i, int j) {
        int fault = faultOfEntry(p, i, j);
        Line line = lineIn(p, i);
        if (fault != FINE || line == null) {
            return none(fault);
        }
        tell(FINE);
        return line.numbers[j];
    }

    public boolean enter(int p, int i, int j, int v) {
        int fault = faultOfEntry(p, i, j);
        Line line = lineIn(p, i);
        if (fault == FINE && line != null) {
            line.numbers[j] = v;
        }
        return tell(fault);
    }

    public boolean line(int p, int i, int n) {
        if (!isPlace(p) || !isWithin(n, NONE, MOST_NUMBERS)) {
            return tell(REFUSED);
        }
        Shelf shelf = tableIn(p);
        if (shelf == null) {
            return tell(lackOf(p));
        }
        if (!shelf.reaches(i)) {
            return tell(OUTSIDE);
        }
        shelf.items[i] = n < 0 ? null : new Line(n);
        return tell(FINE);
    }

    // ---- moving

    public boolean move(int p, int i, int q, int j, int n) {
        return tell(moveAll(p, i, q, j, n));
    }

    // ---- reckoning

    public boolean reckon(int op, int p, int q, int r) {
        if (!isWithin(op, PLUS, MAX) || !arePlaces(p, q, r)) {
            return tell(REFUSED);
        }
        Band a = numbersIn(p);
        Band b = numbersIn(q);
        if (a == null || b == null) {
            return tell(a == null ? lackOf(p) : lackOf(q));
        }
        Band made = new Band(Cell.wider(a.tag, b.tag), a.cells.length);
        boolean divides = Cell.isWhole(made.tag) && (op == OVER || op == REST);
        int reach = Math.min(a.cells.length, b.cells.length);
        for (int k = 0; k < reach; k++) {
            if (divides && b.cells[k] == 0) {
                return stopAt(k, ZERO);
            }
            made.cells[k] = Cell.reckoned(op, made.tag, a.turnedTo(made.tag, k), b.turnedTo(made.tag, k));
        }
        return finish(r, made, reach);
    }

    public boolean compare(int op, int p, int q, int r) {
        if (!isWithin(op, 0, 5) || !arePlaces(p, q, r)) {
            return tell(REFUSED);
        }
        Band a = numbersIn(p);
        Band b = numbersIn(q);
        if (a == null || b == null) {
            return tell(a == null ? lackOf(p) : lackOf(q));
        }
        Band made = new Band(MARK, a.cells.length);
        int wider = Cell.wider(a.tag, b.tag);
        int reach = Math.min(a.cells.length, b.cells.length);
        for (int k = 0; k < reach; k++) {
            made.cells[k] = Cell.isSo(op, Cell.order(wider, a.turnedTo(wider, k), b.turnedTo(wider, k))) ? 1 : 0;
        }
        return finish(r, made, reach);
    }

    public boolean mark(int op, int p, int q, int r) {
        if (!isWithin(op, 0, NOT_OF_FIRST) || !arePlaces(p, q, r)) {
            return tell(REFUSED);
        }
        Band a = bandIn(p, MARK);
        Band b = op == NOT_OF_FIRST ? a : bandIn(q, MARK);
        if (a == null || b == null) {
            return tell(a == null ? lackOf(p) : lackOf(q));
        }
        Band made = new Band(MARK, a.cells.length);
        int reach = Math.min(a.cells.length, b.cells.length);
        for (int k = 0; k < reach; k++) {
            made.cells[k] = Cell.joined(op, a.cells[k], b.cells[k]);
        }
        return finish(r, made, reach);
    }

    public boolean choose(int m, int p, int q, int r) {
        if (!isPlace(m) || !arePlaces(p, q, r)) {
            return tell(REFUSED);
        }
        Band marks = bandIn(m, MARK);
        Band a = numbersIn(p);
        Band b = numbersIn(q);
        if (marks == null || a == null || b == null) {
            return tell(marks == null ? lackOf(m) : a == null ? lackOf(p) : lackOf(q));
        }
        Band made = new Band(Cell.wider(a.tag, b.tag), marks.cells.length);
        int reach = Math.min(marks.cells.length, Math.min(a.cells.length, b.cells.length));
        for (int k = 0; k < reach; k++) {
            made.cells[k] = marks.cells[k] == 1 ? a.turnedTo(made.tag, k) : b.turnedTo(made.tag, k);
        }
        return finish(r, made, reach);
    }

    public boolean turn(int kind, int p, int r) {
        if (!isKind(kind) || !isPlace(p) || !isPlace(r)) {
            return tell(REFUSED);
        }
        if (thingIn(p) instanceof Band a) {
            Band made = new Band(kind, a.cells.length);
            for (int k = 0; k < made.cells.length; k++) {
                made.cells[k] = a.turnedTo(kind, k);
            }
            return finish(r, made, made.cells.length);
        }
        return tell(lackOf(p));
    }

    public boolean bits(int p, int r) {
        if (!isPlace(p) || !isPlace(r)) {
            return tell(REFUSED);
        }
        if (thingIn(p) instanceof Band a && isWithin(a.tag, INT, DOUBLE)) {
            Band made = new Band(Cell.otherOfBits(a.tag), a.cells.length);
            for (int k = 0; k < made.cells.length; k++) {
                made.give(k, a.cellAt(k));
            }
            return finish(r, made, made.cells.length);
        }
        // An act on a BAND of a KIND without a counterpart is WRONG, as on any other thing.
        return tell(lackOf(p));
    }

    public boolean math(int op, int p, int r) {
        if (!isWithin(op, 0, NEAREST) || !isPlace(p) || !isPlace(r)) {
            return tell(REFUSED);
        }
        Band a = numbersIn(p);
        if (a == null) {
            return tell(lackOf(p));
        }
        int kind = a.tag == FLOAT ? FLOAT : DOUBLE;
        Band made = new Band(Cell.kindOfMath(op, kind), a.cells.length);
        for (int k = 0; k < made.cells.length; k++) {
            made.cells[k] = Cell.mathOf(op, kind, a.turnedTo(kind, k));
        }
        return finish(r, made, made.cells.length);
    }

    public boolean fuse(int p, int q, int s, int r) {
        if (!isPlace(p) || !arePlaces(q, s, r)) {
            return tell(REFUSED);
        }
        Band a = numbersIn(p);
        Band b = numbersIn(q);
        Band c = numbersIn(s);
        if (a == null || b == null || c == null) {
            return tell(a == null ? lackOf(p) : b == null ? lackOf(q) : lackOf(s));
        }
        int kind = a.tag == FLOAT && b.tag == FLOAT && c.tag == FLOAT ? FLOAT : DOUBLE;
        Band made = new Band(kind, a.cells.length);
        int reach = Math.min(a.cells.length, Math.min(b.cells.length, c.cells.length));
        for (int k = 0; k < reach; k++) {
            long product = Cell.reckoned(TIMES, kind, a.turnedTo(kind, k), b.turnedTo(kind, k));
            made.cells[k] = Cell.reckoned(PLUS, kind, product, c.turnedTo(kind, k));
        }
        return finish(r, made, reach);
    }

    public boolean apply(int p, int q, int r) {
        if (!arePlaces(p, q, r)) {
            return tell(REFUSED);
        }
        Band a = numbersIn(p);
        if (a == null) {
            return tell(lackOf(p));
        }
        if (thingIn(q) instanceof Scale s) {
            Band made = new Band(DOUBLE, a.cells.length);
            for (int k = 0; k < made.cells.length; k++) {
                made.cells[k] = Real.plus(Real.times(a.asDouble(k), s.gain), s.offset);
            }
            return finish(r, made, made.cells.length);
        }
        return tell(lackOf(q));
    }

    public long stat(int op, int p) {
        if (!isWithin(op, 0, 5) || !isPlace(p)) {
            return none(REFUSED);
        }
        Band a = numbersIn(p);
        if (a == null) {
            return none(lackOf(p));
        }
        tell(FINE);
        gone = a.cells.length;
        switch (op) {
            case 0:
                return a.utmost(false);
            case 1:
                return a.utmost(true);
            case 2:
                return a.sum();
            case 3:
                return Real.over(a.sum(), Real.ofWhole(DOUBLE, a.cells.length));
            case 4:
                return Real.ofWhole(DOUBLE, a.countOfNaN());
            default:
                return a.carefulSum();
        }
    }

    public long sample(int reader, int p, int w, long x, long y) {
        if (!isWithin(reader, 0, LINEAR) || !isPlace(p) || !isWithin(w, 1, MOST_CELLS)) {
            return none(REFUSED);
        }
        Band a = numbersIn(p);
        if (a == null) {
            return none(lackOf(p));
        }
        tell(FINE);
        if (Real.isFar(x) || Real.isFar(y)) {
            return Real.NAN;
        }
        Grid grid = new Grid(a, w);
        return reader == LINEAR ? grid.between(x, y) : grid.near(reader, x, y);
    }

    public int stepOf(int reader, int w) {
        if (!isWithin(reader, 0, LINEAR) || !isWithin(w, 1, MOST_CELLS)) {
            return none(REFUSED);
        }
        tell(FINE);
        return reader == ROUND ? w : reader == MIRROR ? 2 * w : 1;
    }

    // ---- jobs

    public int step(int code, int a, int b, int c) {
        if (!isWithin(code, OPEN, SWAP) || plan.isFull()) {
            return none(REFUSED);
        }
        plan.append(code, a, b, c);
        tell(FINE);
        return plan.count;
    }

    public boolean job() {
        int fault = plan.begin() ? runSteps() : REFUSED;
        plan.count = 0;
        return tell(fault);
    }

    public int done(int what) {
        return isWithin(what, BEGUN, STUCK_AT) ? plan.results[what] : NONE;
    }

    public long total() {
        return plan.total;
    }

    public int gone() {
        return gone;
    }

    // ---- what the acts share

    private static boolean isWithin(int v, int least, int greatest) {
        return v >= least && v <= greatest;
    }

    private static boolean isPlace(int p) {
        return p >= 0 && p < PLACES;
    }

    private static boolean arePlaces(int p, int q, int r) {
        return isPlace(p) && isPlace(q) && isPlace(r);
    }

    private static boolean isKind(int kind) {
        return kind >= BYTE && kind <= MARK;
    }

    /** Every act comes through here, so that none leaves what an earlier one told or went through. */
    private boolean tell(int fault) {
        told = fault;
        gone = 0;
        return fault == FINE;
    }

    private int none(int fault) {
        tell(fault);
        return NONE;
    }

    private boolean put(int p, Thing thing) {
        if (isPlace(p)) {
            places[p] = thing;
        }
        return tell(FINE);
    }

    private boolean stopAt(int k, int fault) {
        tell(fault);
        gone = k + 1;
        return false;
    }

    /** An operand that ends ahead of the BAND that is made has its FAULT at its own end. */
    private boolean finish(int r, Band made, int reach) {
        if (reach < made.cells.length) {
            return stopAt(reach, OUTSIDE);
        }
        put(r, made);
        gone = reach;
        return true;
    }

    private Thing thingIn(int p) {
        return isPlace(p) ? places[p] : null;
    }

    private Band bandIn(int p, int kind) {
        return thingIn(p) instanceof Band b && b.tag == kind ? b : null;
    }

    private Band numbersIn(int p) {
        return thingIn(p) instanceof Band b && b.tag != MARK ? b : null;
    }

    private Shelf rowIn(int p) {
        return thingIn(p) instanceof Shelf s && s.tag != TAG_OF_TABLES ? s : null;
    }

    private Shelf tableIn(int p) {
        return thingIn(p) instanceof Shelf s && s.tag == TAG_OF_TABLES ? s : null;
    }

    private Line lineIn(int p, int i) {
        Shelf shelf = tableIn(p);
        return shelf != null && shelf.reaches(i) && shelf.items[i] instanceof Line line ? line : null;
    }

    /** The FAULT of a place that does not hold what it is taken for. */
    private int lackOf(int p) {
        return thingIn(p) == null ? MISSING : WRONG;
    }

    private int faultOfCell(int p, int kind, int i) {
        if (!isPlace(p) || !isKind(kind)) {
            return REFUSED;
        }
        Band band = bandIn(p, kind);
        return band == null ? lackOf(p) : band.reaches(i) ? FINE : OUTSIDE;
    }

    private int faultOfEntry(int p, int i, int j) {
        if (!isPlace(p)) {
            return REFUSED;
        }
        Shelf shelf = tableIn(p);
        if (shelf == null) {
            return lackOf(p);
        }
        if (!shelf.reaches(i)) {
            return OUTSIDE;
        }
        Line line = lineIn(p, i);
        return line == null ? MISSING : line.reaches(j) ? FINE : OUTSIDE;
    }

    private int moveAll(int p, int i, int q, int j, int n) {
        if (!isPlace(p) || !isPlace(q)) {
            return REFUSED;
        }
        Thing from = thingIn(p);
        Thing to = thingIn(q);
        if (from == null || to == null) {
            return MISSING;
        }
        if (from instanceof Band a && to instanceof Band b && a.tag == b.tag) {
            return moveCells(a.cells, i, b.cells, j, n);
        }
        if (from instanceof Shelf a && to instanceof Shelf b) {
            return moveItems(a, i, b, j, n);
        }
        return WRONG;
    }

    /** Asked without i + n, which may wrap. */
    private static boolean lieWithin(int i, int n, int length) {
        return i >= 0 && n >= 0 && n <= length && i <= length - n;
    }

    private static int moveCells(long[] from, int i, long[] to, int j, int n) {
        if (!lieWithin(i, n, from.length) || !lieWithin(j, n, to.length)) {
            return OUTSIDE;
        }
        System.arraycopy(from, i, to, j, n);
        return FINE;
    }

    private static int moveItems(Shelf from, int i, Shelf to, int j, int n) {
        if (!lieWithin(i, n, from.items.length) || !lieWithin(j, n, to.items.length)) {
            return OUTSIDE;
        }
        Item[] taken = new Item[n];
        for (int k = 0; k < n; k++) {
            taken[k] = from.items[i + k];
        }
        for (int k = 0; k < n; k++) {
            if (!to.takes(taken[k])) {
                return UNFIT;
            }
            to.items[j + k] = taken[k];
        }
        return FINE;
    }

    private int runSteps() {
        int next = 0;
        for (int at = 0; at < plan.count; at++) {
            if (at < next) {
                continue;
            }
            int fault = runStep(at);
            if (fault == FINE) {
                plan.results[STEPS_DONE]++;
            } else {
                next = plan.leaveFor(fault);
                if (next == NONE) {
                    return fault;
                }
            }
        }
        return FINE;
    }

    private int runStep(int at) {
        int a = plan.firsts[at];
        int b = plan.seconds[at];
        int c = plan.thirds[at];
        switch (plan.codes[at]) {
            case OPEN:
                return plan.openScope(at);
            case GUARD:
                plan.deepen(at);
                return FINE;
            case CLOSE:
            case END:
                plan.leaveInnermost();
                return FINE;
            case MOVE:
                return moveAll(a, 0, b, 0, c);
            case ADD:
                return addToTotal(a, b, c);
            case PUT:
                return putCell(a, b, c);
            case SWAP:
                return swapPlaces(a, b);
            case RAISE:
            default:
                return RAISED;
        }
    }

    private int addToTotal(int p, int kind, int i) {
        int fault = faultOfCell(p, kind, i);
        Band band = bandIn(p, kind);
        if (fault == FINE && band != null) {
            plan.total += band.cellAt(i);
        }
        return fault;
    }

    private int putCell(int p, int bits, int i) {
        if (!isPlace(p)) {
            return REFUSED;
        }
        if (thingIn(p) instanceof Band band) {
            return band.give(i, bits) ? FINE : OUTSIDE;
        }
        return lackOf(p);
    }

    private int swapPlaces(int p, int q) {
        if (!isPlace(p) || !isPlace(q)) {
            return REFUSED;
        }
        Thing held = places[p];
        places[p] = places[q];
        places[q] = held;
        return FINE;
    }

    /** What a place may hold; its tag is what holds() answers. */
    private abstract static class Thing {
        final int tag;

        Thing(int tag) {
            this.tag = tag;
        }
    }

    /** A BAND; its tag is its KIND, its cells are BITS, a NaN always the one that is told. */
    private static final class Band extends Thing {
        final long[] cells;

        Band(int kind, int n) {
            super(kind);
            cells = new long[Math.max(n, 0)];
        }

        boolean reaches(int i) {
            return i >= 0 && i < cells.length;
        }

        long cellAt(int i) {
            return reaches(i) ? cells[i] : NONE;
        }

        boolean give(int i, long value) {
            if (!reaches(i)) {
                return false;
            }
            cells[i] = Cell.given(tag, value);
            return true;
        }

        long turnedTo(int kind, int i) {
            return Cell.turned(cellAt(i), tag, kind);
        }

        long asDouble(int i) {
            return reaches(i) ? Cell.asDouble(cells[i], tag) : Real.NAN;
        }

        long utmost(boolean greatest) {
            long found = cells.length == 0 ? Real.NAN : asDouble(0);
            for (int k = 1; k < cells.length; k++) {
                long x = asDouble(k);
                found = greatest ? Real.greatest(found, x) : Real.least(found, x);
            }
            return found;
        }

        long sum() {
            long sum = 0;
            for (int k = 0; k < cells.length; k++) {
                sum = Real.plus(sum, asDouble(k));
            }
            return sum;
        }

        int countOfNaN() {
            int count = 0;
            for (int k = 0; k < cells.length; k++) {
                if (Real.isNaN(asDouble(k))) {
                    count++;
                }
            }
            return count;
        }

        long carefulSum() {
            long sum = 0;
            long lost = 0;
            for (int k = 0; k < cells.length; k++) {
                long x = asDouble(k);
                if (!Real.isNaN(x)) {
                    long y = Real.minus(x, lost);
                    long t = Real.plus(sum, y);
                    lost = Real.minus(Real.minus(t, sum), y);
                    sum = t;
                }
            }
            return sum;
        }
    }

    /** A ROW or a TABLE: places for items, told apart by the tag, so that VOID ones can be moved between both. */
    private static final class Shelf extends Thing {
        final Item[] items;

        Shelf(int tag, int n) {
            super(tag);
            items = new Item[Math.max(n, 0)];
        }

        boolean reaches(int i) {
            return i >= 0 && i < items.length;
        }

        boolean takes(Item item) {
            if (item instanceof Feature f) {
                return tag == TAG_OF_ROWS || tag != TAG_OF_TABLES && f.isOfSort(tag - TAG_OF_ROWS);
            }
            return item == null || tag == TAG_OF_TABLES;
        }
    }

    /** A SCALE, both numbers by the BITS of DOUBLES. */
    private static final class Scale extends Thing {
        final long gain;
        final long offset;

        Scale(long gain, long offset) {
            super(TAG_OF_SCALES);
            this.gain = Cell.given(DOUBLE, gain);
            this.offset = Cell.given(DOUBLE, offset);
        }
    }

    /** What stands in a ROW or a TABLE; null is VOID. */
    private abstract static class Item {
    }

    private static final class Feature extends Item {
        final int sort;
        final int number;

        Feature(int sort, int number) {
            this.sort = sort;
            this.number = number;
        }

        /** Each PEAK is a POINT, too. */
        boolean isOfSort(int asked) {
            return sort == asked || sort == PEAK_SORT && asked == POINT_SORT;
        }

        boolean isTakenAs(int what) {
            switch (what) {
                case 2:
                    return isOfSort(POINT_SORT);
                case 3:
                    return isOfSort(PEAK_SORT);
                case 4:
                    return isOfSort(LINE_SORT);
                default:
                    return true;
            }
        }
    }

    /** A LINE of a TABLE: an object, as two TABLES may hold the same one. */
    private static final class Line extends Item {
        final int[] numbers;

        Line(int n) {
            numbers = new int[Math.max(n, 0)];
        }

        boolean reaches(int j) {
            return j >= 0 && j < numbers.length;
        }
    }

    /** What the eight KINDS are: cells by BITS, TURNING, and RECKONING on two cells of one KIND. */
    private static final class Cell {
        private static final int UNORDERED = 2;

        static boolean isWhole(int kind) {
            return kind <= LONG;
        }

        static int wider(int kind, int other) {
            return Math.max(INT, Math.max(kind, other));
        }

        static long given(int kind, long value) {
            switch (kind) {
                case BYTE:
                    return (byte) value;
                case SIGN:
                    return value & 0xffffL;
                case SHORT:
                    return (short) value;
                case INT:
                    return (int) value;
                case FLOAT:
                    return Real.oneNaNOfFloats((int) value);
                case DOUBLE:
                    return Real.isNaN(value) ? Real.NAN : value;
                case MARK:
                    return value & 1;
                default:
                    return value;
            }
        }

        static long turned(long value, int from, int to) {
            if (from == to) {
                return value;
            }
            if (to == DOUBLE) {
                return asDouble(value, from);
            }
            if (from == FLOAT || from == DOUBLE) {
                return turnedReal(asDouble(value, from), to);
            }
            if (to == FLOAT) {
                return Real.ofWhole(FLOAT, value);
            }
            return to != MARK ? given(to, value) : value == 0 ? 0 : 1;
        }

        static long asDouble(long value, int from) {
            return from == DOUBLE ? value : from == FLOAT ? Real.widened(value) : Real.ofWhole(DOUBLE, value);
        }

        private static long turnedReal(long d, int to) {
            switch (to) {
                case FLOAT:
                    return Real.narrowed(d);
                case MARK:
                    return Real.isZero(d) ? 0 : 1;
                case LONG:
                    return Real.toLong(d);
                default:
                    return given(to, heldToInt(Real.toLong(d)));
            }
        }

        private static long heldToInt(long v) {
            return Math.max(-2147483648L, Math.min(2147483647L, v));
        }

        /** FLOATS are reckoned as DOUBLES and rounded again: with 53 bits, at least 2 * 24 + 2, twice comes to once. */
        static long reckoned(int op, int kind, long a, long b) {
            switch (kind) {
                case DOUBLE:
                    return reckonedReal(op, a, b);
                case FLOAT:
                    return Real.narrowed(reckonedReal(op, Real.widened(a), Real.widened(b)));
                default:
                    return given(kind, reckonedWhole(op, a, b));
            }
        }

        private static long reckonedReal(int op, long a, long b) {
            switch (op) {
                case PLUS:
                    return Real.plus(a, b);
                case MINUS:
                    return Real.minus(a, b);
                case TIMES:
                    return Real.times(a, b);
                case OVER:
                    return Real.over(a, b);
                case REST:
                    return Real.rest(a, b);
                case MIN:
                    return Real.least(a, b);
                default:
                    return Real.greatest(a, b);
            }
        }

        private static long reckonedWhole(int op, long a, long b) {
            switch (op) {
                case PLUS:
                    return a + b;
                case MINUS:
                    return a - b;
                case TIMES:
                    return a * b;
                case OVER:
                    return b == 0 ? 0 : a / b;
                case REST:
                    return b == 0 ? 0 : a % b;
                case MIN:
                    return Math.min(a, b);
                default:
                    return Math.max(a, b);
            }
        }

        /** -1, 0 or 1 as the first is less, equal or greater; UNORDERED with a NaN. */
        static int order(int kind, long a, long b) {
            if (isWhole(kind)) {
                return Long.compare(a, b);
            }
            long x = asDouble(a, kind);
            long y = asDouble(b, kind);
            return Real.isNaN(x) || Real.isNaN(y) ? UNORDERED : Real.compared(x, y);
        }

        static boolean isSo(int op, int order) {
            switch (op) {
                case 0:
                    return order == -1;
                case 1:
                    return order == -1 || order == 0;
                case 2:
                    return order == 1;
                case 3:
                    return order == 1 || order == 0;
                case 4:
                    return order == 0;
                default:
                    return order != 0;
            }
        }

        static long joined(int op, long a, long b) {
            switch (op) {
                case 0:
                    return a & b;
                case 1:
                    return a | b;
                case 2:
                    return a ^ b;
                default:
                    return a ^ 1;
            }
        }

        static int otherOfBits(int kind) {
            return kind <= LONG ? kind + FLOAT - INT : kind - FLOAT + INT;
        }

        static int kindOfMath(int op, int kind) {
            if (op == EXPONENT) {
                return INT;
            }
            return op != NEAREST ? kind : kind == FLOAT ? INT : LONG;
        }

        static long mathOf(int op, int kind, long a) {
            switch (op) {
                case ULP:
                    return Real.ulp(kind, a);
                case NEXT:
                    return Real.next(kind, a);
                case EXPONENT:
                    return Real.exponent(kind, a);
                case NEAREST:
                    return kind == FLOAT ? heldToInt(Real.nearestUp(Real.widened(a))) : Real.nearestUp(a);
                default:
                    return kind == FLOAT ? Real.narrowed(mathOfReal(op, Real.widened(a))) : mathOfReal(op, a);
            }
        }

        private static long mathOfReal(int op, long a) {
            switch (op) {
                case 0:
                    return Real.withoutSign(a);
                case 1:
                    return Real.floor(a);
                case 2:
                    return Real.ceiling(a);
                case 3:
                    return Real.nearestEven(a);
                case 4:
                    return Real.signOf(a);
                case 5:
                    return Real.root(a);
                case 8:
                    return Real.withSignOf(Real.minus(a, Real.ONE), a);
                default:
                    return Real.times(a, Real.EIGHT);
            }
        }
    }

    /** IEEE 754 on bits. Numbers are the bits of DOUBLES but where FLOATS (32 bits, with the sign carried on) are named. */
    private static final class Real {
        static final long NAN = 0x7ff8000000000000L;
        static final long ONE = 0x3ff0000000000000L;
        static final long EIGHT = 0x4020000000000000L;

        static final long HALF = 0x3fe0000000000000L;
        private static final long BILLION = 0x41cdcd6500000000L;
        private static final long TWO_TO_52 = 0x4330000000000000L;
        private static final long TWO_TO_63 = 0x43e0000000000000L;
        private static final long INFINITY = 0x7ff0000000000000L;
        private static final long SIGN_BIT = 0x8000000000000000L;
        private static final long WITHOUT_SIGN = 0x7fffffffffffffffL;
        private static final long FRACTION = 0x000fffffffffffffL;
        private static final long HIDDEN = 0x0010000000000000L;

        private static final long FLOAT_NAN = 0x7fc00000L;
        private static final long FLOAT_INFINITY = 0x7f800000L;
        private static final long FLOAT_SIGN = 0xffffffff80000000L;
        private static final long FLOAT_WITHOUT_SIGN = 0x7fffffffL;
        private static final long FLOAT_FRACTION = 0x7fffffL;
        private static final long FLOAT_HIDDEN = 0x800000L;

        private static final int TOP = 62;

        static boolean isNaN(long d) {
            return (d & WITHOUT_SIGN) > INFINITY;
        }

        static boolean isZero(long d) {
            return (d & WITHOUT_SIGN) == 0;
        }

        /** Of a NaN, too: its bits are above those of all numbers. */
        static boolean isFar(long d) {
            return (d & WITHOUT_SIGN) >= BILLION;
        }

        static long oneNaNOfFloats(long f) {
            return (f & FLOAT_WITHOUT_SIGN) > FLOAT_INFINITY ? FLOAT_NAN : f;
        }

        static long withoutSign(long d) {
            return d & WITHOUT_SIGN;
        }

        static long withSignOf(long d, long other) {
            return isNaN(d) ? NAN : (d & WITHOUT_SIGN) | (other & SIGN_BIT);
        }

        static long negated(long d) {
            return isNaN(d) ? NAN : d ^ SIGN_BIT;
        }

        static long signOf(long d) {
            return isNaN(d) || isZero(d) ? d : withSignOf(ONE, d);
        }

        /** A number is its mantissa times 2 to its power. */
        private static long mantissa(long d) {
            return (d & INFINITY) == 0 ? d & FRACTION : (d & FRACTION) | HIDDEN;
        }

        private static int power(long d) {
            return Math.max((int) (d >>> 52) & 0x7ff, 1) - 1075;
        }

        private static long signed(int kind, boolean negative, long size) {
            return !negative ? size : size | (kind == FLOAT ? FLOAT_SIGN : SIGN_BIT);
        }

        /**
         * m (without sign) times 2 to the power, rounded to a KIND. The lowest bit of an m of more than 55 bits may stand
         * for all that was cut off below it.
         */
        private static long rounded(int kind, boolean negative, int power, long m) {
            long sign = signed(kind, negative, 0);
            if (m == 0) {
                return sign;
            }
            int fraction = kind == FLOAT ? 23 : 52;
            int bias = kind == FLOAT ? 127 : 1023;
            long full = m < 0 ? (m >>> 1) | (m & 1) : m;
            int up = Long.numberOfLeadingZeros(full) - 1;
            full <<= up;
            int field = power + (m < 0 ? 1 : 0) - up + TOP + bias;
            if (field > 2 * bias) {
                return sign | (kind == FLOAT ? FLOAT_INFINITY : INFINITY);
            }
            int cut = TOP - fraction + Math.max(1 - field, 0);
            if (cut > TOP + 1) {
                return sign;
            }
            long kept = full >>> cut;
            long rest = full & ((1L << cut) - 1);
            long middle = 1L << (cut - 1);
            if (rest > middle || rest == middle && (kept & 1) == 1) {
                kept++;
            }
            // A carry, and the first bit of kept, which the bits hide, count into the field by themselves.
            return sign | (((long) Math.max(field - 1, 0) << fraction) + kept);
        }

        static long ofWhole(int kind, long v) {
            return rounded(kind, v < 0, 0, v < 0 ? -v : v);
        }

        static long widened(long f) {
            long size = f & FLOAT_WITHOUT_SIGN;
            if (size > FLOAT_INFINITY) {
                return NAN;
            }
            if (size == FLOAT_INFINITY) {
                return signed(DOUBLE, f < 0, INFINITY);
            }
            int field = (int) (size >>> 23);
            long m = field == 0 ? size : (size & FLOAT_FRACTION) | FLOAT_HIDDEN;
            return rounded(DOUBLE, f < 0, Math.max(field, 1) - 150, m);
        }

        static long narrowed(long d) {
            long size = d & WITHOUT_SIGN;
            if (size > INFINITY) {
                return FLOAT_NAN;
            }
            if (size == INFINITY) {
                return signed(FLOAT, d < 0, FLOAT_INFINITY);
            }
            return rounded(FLOAT, d < 0, power(d), mantissa(d));
        }

        static long toLong(long d) {
            if (isNaN(d)) {
                return 0;
            }
            if ((d & WITHOUT_SIGN) >= TWO_TO_63) {
                return d < 0 ? SIGN_BIT : WITHOUT_SIGN;
            }
            int power = power(d);
            long size = power >= 0 ? mantissa(d) << power : power < -TOP ? 0 : mantissa(d) >>> -power;
            return d < 0 ? -size : size;
        }

        /** Of numbers that are not NaN; 0 and -0 are equal. */
        static int compared(long a, long b) {
            return Long.compare(a < 0 ? SIGN_BIT - a : a, b < 0 ? SIGN_BIT - b : b);
        }

        /** As a long that lies in the order of MIN and MAX, -0 below 0. */
        private static long rank(long d) {
            return d ^ ((d >> 63) & WITHOUT_SIGN);
        }

        static long least(long a, long b) {
            if (isNaN(a) || isNaN(b)) {
                return NAN;
            }
            return rank(a) <= rank(b) ? a : b;
        }

        static long greatest(long a, long b) {
            if (isNaN(a) || isNaN(b)) {
                return NAN;
            }
            return rank(a) >= rank(b) ? a : b;
        }

        private static boolean isInfinite(long d) {
            return (d & WITHOUT_SIGN) == INFINITY;
        }

        static long plus(long a, long b) {
            if (isNaN(a) || isNaN(b)) {
                return NAN;
            }
            if (isInfinite(a)) {
                return isInfinite(b) && a != b ? NAN : a;
            }
            if (isInfinite(b)) {
                return b;
            }
            if (isZero(a) && isZero(b)) {
                return a & b;
            }
            boolean isFirstGreater = (a & WITHOUT_SIGN) >= (b & WITHOUT_SIGN);
            long greater = isFirstGreater ? a : b;
            long lesser = isFirstGreater ? b : a;
            // Nine bits more below the last one are enough for the lowest of them to tell of all that is cut off.
            long m = mantissa(greater) << 9;
            long n = shiftedDown(mantissa(lesser) << 9, power(greater) - power(lesser));
            long sum = (a ^ b) < 0 ? m - n : m + n;
            return rounded(DOUBLE, sum != 0 && greater < 0, power(greater) - 9, sum);
        }

        private static long shiftedDown(long m, int places) {
            if (places <= 0) {
                return m;
            }
            if (places > TOP) {
                return m == 0 ? 0 : 1;
            }
            return (m >>> places) | ((m & ((1L << places) - 1)) == 0 ? 0 : 1);
        }

        static long minus(long a, long b) {
            return plus(a, negated(b));
        }

        static long times(long a, long b) {
            if (isNaN(a) || isNaN(b) || isInfinite(a) && isZero(b) || isZero(a) && isInfinite(b)) {
                return NAN;
            }
            boolean negative = (a ^ b) < 0;
            if (isInfinite(a) || isInfinite(b)) {
                return signed(DOUBLE, negative, INFINITY);
            }
            if (isZero(a) || isZero(b)) {
                return signed(DOUBLE, negative, 0);
            }
            int up = Long.numberOfLeadingZeros(mantissa(a)) - 1;
            int upOther = Long.numberOfLeadingZeros(mantissa(b)) - 1;
            long m = mantissa(a) << up;
            long n = mantissa(b) << upOther;
            long product = upperHalf(m, n) | (m * n == 0 ? 0 : 1);
            return rounded(DOUBLE, negative, power(a) - up + power(b) - upOther + 64, product);
        }

        /** The upper 64 of the 128 bits of a product of longs that are not negative. */
        private static long upperHalf(long m, long n) {
            long low = m & 0xffffffffL;
            long lowOther = n & 0xffffffffL;
            long cross = low * (n >>> 32);
            long crossOther = (m >>> 32) * lowOther;
            long carry = ((low * lowOther) >>> 32) + (cross & 0xffffffffL) + (crossOther & 0xffffffffL);
            return (m >>> 32) * (n >>> 32) + (cross >>> 32) + (crossOther >>> 32) + (carry >>> 32);
        }

        static long over(long a, long b) {
            if (isNaN(a) || isNaN(b) || isInfinite(a) && isInfinite(b) || isZero(a) && isZero(b)) {
                return NAN;
            }
            boolean negative = (a ^ b) < 0;
            if (isInfinite(a) || isZero(b)) {
                return signed(DOUBLE, negative, INFINITY);
            }
            if (isZero(a) || isInfinite(b)) {
                return signed(DOUBLE, negative, 0);
            }
            int up = Long.numberOfLeadingZeros(mantissa(a)) - 11;
            int upOther = Long.numberOfLeadingZeros(mantissa(b)) - 11;
            long quotient = quotient(mantissa(a) << up, mantissa(b) << upOther);
            return rounded(DOUBLE, negative, power(a) - up - power(b) + upOther - 60, quotient);
        }

        /** m / n times 2 to the 60th power for numbers of 53 bits, ten bits at a time so that no rest outgrows a long. */
        private static long quotient(long m, long n) {
            if (n <= 0) {
                return 0;
            }
            long quotient = m / n;
            long rest = m % n;
            for (int k = 0; k < 6; k++) {
                quotient = (quotient << 10) + (rest << 10) / n;
                rest = (rest << 10) % n;
            }
            return quotient | (rest == 0 ? 0 : 1);
        }

        static long rest(long a, long b) {
            if (isNaN(a) || isNaN(b) || isInfinite(a) || isZero(b)) {
                return NAN;
            }
            if ((a & WITHOUT_SIGN) < (b & WITHOUT_SIGN)) {
                return a;
            }
            long n = mantissa(b);
            long rest = n == 0 ? 0 : mantissa(a) % n;
            for (int left = power(a) - power(b); left > 0 && n != 0; left -= 10) {
                rest = (rest << Math.min(left, 10)) % n;
            }
            return rounded(DOUBLE, a < 0, power(b), rest);
        }

        static long floor(long d) {
            long size = d & WITHOUT_SIGN;
            if (size == 0 || size >= TWO_TO_52) {
                return d;
            }
            if (size < ONE) {
                return d < 0 ? negated(ONE) : 0;
            }
            long unit = 1L << -power(d);
            long cut = d & -unit;
            return d < 0 && cut != d ? cut + unit : cut;
        }

        static long ceiling(long d) {
            return negated(floor(negated(d)));
        }

        /** Beside 2 to the 52nd power a DOUBLE has no bits below 1: the sum is rounded as is wanted. */
        static long nearestEven(long d) {
            long size = d & WITHOUT_SIGN;
            return size >= TWO_TO_52 ? d : withSignOf(plus(plus(size, TWO_TO_52), TWO_TO_52 | SIGN_BIT), d);
        }

        static long nearestUp(long d) {
            long below = floor(d);
            long above = minus(d, below);
            boolean goesUp = !isNaN(above) && compared(above, HALF) >= 0;
            return goesUp ? toLong(below) + 1 : toLong(below);
        }

        static long root(long d) {
            if (isNaN(d) || isZero(d)) {
                return d;
            }
            if (d < 0) {
                return NAN;
            }
            if (d == INFINITY) {
                return d;
            }
            int up = Long.numberOfLeadingZeros(mantissa(d)) - 11;
            int power = power(d) - up;
            int odd = power & 1;
            return rounded(DOUBLE, false, (power - odd) / 2 - 29, wholeRoot(mantissa(d) << (up + odd)));
        }

        /** The root of m (at most 54 bits) times 2 to the 58th power, digit by digit; its lowest bit tells of a rest. */
        private static long wholeRoot(long m) {
            long root = 0;
            long rest = 0;
            for (int k = 0; k < 55; k++) {
                long digits = k < 27 ? (m >>> (52 - 2 * k)) & 3 : 0;
                rest = (rest << 2) | digits;
                long tried = (root << 2) | 1;
                root <<= 1;
                if (rest >= tried) {
                    rest -= tried;
                    root |= 1;
                }
            }
            return (root << 1) | (rest == 0 ? 0 : 1);
        }

        static long exponent(int kind, long a) {
            return kind == FLOAT ? ((a >>> 23) & 0xff) - 127 : ((a >>> 52) & 0x7ff) - 1023;
        }

        static long ulp(int kind, long a) {
            if (kind == FLOAT) {
                long size = a & FLOAT_WITHOUT_SIGN;
                return size >= FLOAT_INFINITY ? size : rounded(FLOAT, false, Math.max((int) (size >>> 23), 1) - 150, 1);
            }
            long size = a & WITHOUT_SIGN;
            return size >= INFINITY ? size : rounded(DOUBLE, false, power(a), 1);
        }

        /** The bits of numbers of one sign lie in the order of the numbers. */
        static long next(int kind, long a) {
            if (a == signed(kind, true, 0)) {
                return 1;
            }
            boolean isLast = a >= (kind == FLOAT ? FLOAT_INFINITY : INFINITY);
            return isLast ? a : a < 0 ? a - 1 : a + 1;
        }
    }

    /** A BAND of NUMBERS seen as lines of w cells. */
    private static final class Grid {
        final Band band;
        final int w;
        final int h;

        Grid(Band band, int w) {
            this.band = band;
            this.w = Math.max(w, 1);
            this.h = band.cells.length / this.w;
        }

        /** What is left over behind the whole lines is in none, so h bounds j and not the cells. */
        private long plain(int i, int j) {
            boolean isThere = i >= 0 && i < w && j >= 0 && j < h;
            return isThere ? Cell.asDouble(band.cells[j * w + i], band.tag) : Real.NAN;
        }

        private static int heldBelow(int i, int n) {
            return Math.max(0, Math.min(i, n - 1));
        }

        private long corner(int i, int j) {
            boolean isBesideByOne = i >= -1 && i <= w && j >= -1 && j <= h;
            return isBesideByOne ? plain(heldBelow(i, w), heldBelow(j, h)) : Real.NAN;
        }

        long near(int reader, long x, long y) {
            int i = nearest(reader == MIRROR ? Real.withoutSign(x) : x);
            int j = nearest(reader == MIRROR ? Real.withoutSign(y) : y);
            if (reader == HELD) {
                return plain(heldBelow(i, w), heldBelow(j, h));
            }
            if ((reader == ROUND || reader == MIRROR) && h > 0) {
                return plain(Math.floorMod(i, w), Math.floorMod(j, h));
            }
            return plain(i, j);
        }

        private static int nearest(long x) {
            return wholeBelow(Real.plus(x, Real.HALF));
        }

        private static int wholeBelow(long x) {
            return (int) Real.toLong(Real.floor(x));
        }

        /** A whole 0 has no sign, so -0 lies beyond it by -0; beyond the -0 that is its floor it would lie by 0. */
        private static long beyond(long x, int whole) {
            return Real.minus(x, Real.ofWhole(DOUBLE, whole));
        }

        long between(long x, long y) {
            int i = wholeBelow(x);
            int j = wholeBelow(y);
            long f = beyond(x, i);
            long g = beyond(y, j);
            long p = along(f, corner(i, j), corner(i + 1, j));
            long q = along(f, corner(i, j + 1), corner(i + 1, j + 1));
            return along(g, p, q);
        }

        private static long along(long part, long from, long to) {
            return Real.plus(from, Real.times(part, Real.minus(to, from)));
        }
    }

    /** The STEPS, the SCOPES and GUARDS that are begun, and what the latest JOB came to. */
    private static final class Job {
        final int[] codes = new int[MOST_STEPS];
        final int[] firsts = new int[MOST_STEPS];
        final int[] seconds = new int[MOST_STEPS];
        final int[] thirds = new int[MOST_STEPS];
        int count;

        /** Of each SCOPE and GUARD, by the number of its first STEP, that of its last. */
        private final int[] lasts = new int[MOST_STEPS];
        /** The numbers of the first STEPS of those that are begun and not ended. */
        private final int[] begun = new int[MOST_DEEP];
        private int depth;
        private final boolean[] locked = new boolean[PLACES];
        private int open;

        final int[] results = new int[STUCK_AT + 1];
        long total;

        boolean isFull() {
            return count >= MOST_STEPS;
        }

        void append(int code, int a, int b, int c) {
            if (isFull()) {
                return;
            }
            codes[count] = code;
            firsts[count] = a;
            seconds[count] = b;
            thirds[count] = c;
            count++;
        }

        /** False if it is none. */
        boolean begin() {
            for (int what = 0; what < results.length; what++) {
                results[what] = 0;
            }
            total = 0;
            results[STUCK_AT] = stuckAt();
            depth = 0;
            return results[STUCK_AT] == NONE;
        }

        private int stuckAt() {
            depth = 0;
            for (int at = 0; at < count; at++) {
                if (!goesOnWith(at)) {
                    return at;
                }
            }
            return depth == 0 ? NONE : count;
        }

        private boolean goesOnWith(int at) {
            int code = codes[at];
            if (code == OPEN || code == GUARD) {
                return deepen(at);
            }
            if (code != CLOSE && code != END) {
                return true;
            }
            int first = innermost();
            if (first == NONE || codes[first] != (code == CLOSE ? OPEN : GUARD)) {
                return false;
            }
            lasts[first] = at;
            depth--;
            return true;
        }

        private int innermost() {
            return depth > 0 && depth <= MOST_DEEP ? begun[depth - 1] : NONE;
        }

        boolean deepen(int at) {
            if (depth >= MOST_DEEP) {
                return false;
            }
            begun[depth] = at;
            depth++;
            return true;
        }

        int openScope(int at) {
            int place = firsts[at];
            if (!isPlace(place)) {
                return REFUSED;
            }
            if (locked[place]) {
                return LOCKED;
            }
            locked[place] = true;
            deepen(at);
            open++;
            results[BEGUN]++;
            results[MOST_OPEN] = Math.max(results[MOST_OPEN], open);
            return FINE;
        }

        /** The first STEP of the one that is left, NONE if none is begun. */
        int leaveInnermost() {
            int first = innermost();
            if (first == NONE) {
                return NONE;
            }
            depth--;
            if (codes[first] == OPEN) {
                open--;
                results[LEFT]++;
                unlock(firsts[first]);
            }
            return first;
        }

        private void unlock(int place) {
            if (isPlace(place)) {
                locked[place] = false;
            }
        }

        /** With which STEP the JOB goes on behind a FAULT; NONE if no GUARD is around. */
        int leaveFor(int fault) {
            for (int left = depth; left > 0; left--) {
                int first = leaveInnermost();
                if (first != NONE && codes[first] == GUARD) {
                    results[CAUGHT]++;
                    results[LAST_CAUGHT] = fault;
                    return lasts[first] + 1;
                }
            }
            return NONE;
        }
    }
}
