/** Promises 1 to 9: a new object, told, holds, and what is made. */
public final class MakingTest {
    public static void main(String[] args) {
        newObject();
        told();
        holds();
        band();
        row();
        table();
        scale();
        clear();
        keep();
        Due.end("MakingTest");
    }

    private static void newObject() {
        LayerHouse h = new LayerHouse();
        for (int p = -1; p < 13; p++) {
            Due.is("1 holds " + p, h.holds(p), -1);
        }
        Due.is("1 told", h.told(), 0);
        Due.is("1 gone", h.gone(), 0);
        Due.is("1 total", h.total(), 0);
        Due.is("1 first step", h.step(7, 0, 0, 0), 1);
        LayerHouse other = new LayerHouse();
        other.band(3, Due.INT, 1);
        Due.is("1 objects are apart", h.holds(3), -1);
    }

    private static void told() {
        LayerHouse h = new LayerHouse();
        h.get(0, 0, 0);
        Due.is("2 told", h.told(), Due.MISSING);
        h.holds(0);
        h.done(0);
        h.total();
        h.gone();
        h.told();
        Due.is("2 questions tell nothing", h.told(), Due.MISSING);
        h.clear(0);
        Due.is("2 a good act tells 0", h.told(), 0);
        h.stepOf(9, 9);
        Due.is("2 stepOf tells", h.told(), Due.REFUSED);
        h.step(7, 0, 0, 0);
        Due.is("2 step tells", h.told(), 0);
        h.job();
        Due.is("2 job tells", h.told(), Due.RAISED);
    }

    private static void holds() {
        LayerHouse h = new LayerHouse();
        for (int kind = 0; kind < 8; kind++) {
            h.band(kind, kind, 2);
            Due.is("3 kind", h.holds(kind), kind);
        }
        for (int sort = 0; sort < 4; sort++) {
            h.row(sort, sort, 2);
            Due.is("3 sort", h.holds(sort), 8 + sort);
        }
        h.table(0, 1, 1);
        Due.is("3 table", h.holds(0), 12);
        h.scale(11, 0, 0);
        Due.is("3 scale", h.holds(11), 13);
        Due.is("3 empty", h.holds(10), -1);
        Due.is("3 none such", h.holds(12), -1);
        Due.is("3 none such below", h.holds(-1), -1);
        Due.is("3 least", h.holds(Integer.MIN_VALUE), -1);
        Due.is("3 greatest", h.holds(Integer.MAX_VALUE), -1);
    }

    private static void band() {
        LayerHouse h = new LayerHouse();
        for (int kind = 0; kind < 8; kind++) {
            Due.yes("4 band", h, h.band(kind, kind, 400));
            Due.is("4 size", h.size(kind, kind), 400);
            Due.is("4 first", h.get(kind, kind, 0), 0);
            Due.is("4 last", h.get(kind, kind, 399), 0);
        }
        Due.yes("4 no cells", h, h.band(0, Due.INT, 0));
        Due.is("4 no cells", h.size(0, Due.INT), 0);
        Due.no("4 p below", h, h.band(-1, 0, 1), Due.REFUSED);
        Due.no("4 p above", h, h.band(12, 0, 1), Due.REFUSED);
        Due.no("4 kind below", h, h.band(0, -1, 1), Due.REFUSED);
        Due.no("4 kind above", h, h.band(0, 8, 1), Due.REFUSED);
        Due.no("4 n above", h, h.band(0, 0, 401), Due.REFUSED);
        Due.no("4 n below", h, h.band(0, 0, -401), Due.REFUSED);
        Due.no("4 n least", h, h.band(0, 0, Integer.MIN_VALUE), Due.REFUSED);
        Due.no("4 refused ahead of negative", h, h.band(12, 0, -1), Due.REFUSED);
        Due.no("4 negative", h, h.band(0, 0, -1), Due.NEGATIVE);
        Due.no("4 negative", h, h.band(0, 0, -400), Due.NEGATIVE);
        Due.is("4 a fault puts nothing", h.holds(0), Due.INT);
        h.set(7, Due.MARK, 0, 1);
        h.band(7, Due.MARK, 1);
        Due.is("4 a new one", h.get(7, Due.MARK, 0), 0);
    }

    private static void row() {
        LayerHouse h = new LayerHouse();
        Due.yes("5 row", h, h.row(4, 2, 40));
        Due.no("5 void", h, h.about(4, 0, 0), Due.MISSING);
        Due.no("5 void", h, h.about(4, 39, 0), Due.MISSING);
        Due.no("5 40", h, h.about(4, 40, 0), Due.OUTSIDE);
        Due.yes("5 none", h, h.row(4, 0, 0));
        Due.no("5 none", h, h.about(4, 0, 0), Due.OUTSIDE);
        Due.no("5 p", h, h.row(12, 0, 1), Due.REFUSED);
        Due.no("5 sort below", h, h.row(0, -1, 1), Due.REFUSED);
        Due.no("5 sort above", h, h.row(0, 4, 1), Due.REFUSED);
        Due.no("5 n above", h, h.row(0, 0, 41), Due.REFUSED);
        Due.no("5 n below", h, h.row(0, 0, -41), Due.REFUSED);
        Due.no("5 refused ahead of negative", h, h.row(0, 4, -1), Due.REFUSED);
        Due.no("5 negative", h, h.row(0, 0, -40), Due.NEGATIVE);
        Due.is("5 a fault puts nothing", h.holds(0), -1);
    }

    private static void table() {
        LayerHouse h = new LayerHouse();
        Due.yes("6 table", h, h.table(0, 20, 20));
        Due.yes("6 all 0", h, h.entry(0, 19, 19), 0);
        Due.no("6 i", h, h.entry(0, 20, 0), Due.OUTSIDE);
        Due.no("6 j", h, h.entry(0, 0, 20), Due.OUTSIDE);
        Due.yes("6 of void lines", h, h.table(0, 2, 21));
        Due.no("6 of void lines", h, h.entry(0, 1, 0), Due.MISSING);
        Due.yes("6 no lines", h, h.table(0, 0, 21));
        Due.no("6 no lines", h, h.entry(0, 0, 0), Due.OUTSIDE);
        Due.yes("6 no numbers", h, h.table(0, 1, 0));
        Due.no("6 no numbers", h, h.entry(0, 0, 0), Due.OUTSIDE);
        Due.no("6 p", h, h.table(-1, 1, 1), Due.REFUSED);
        Due.no("6 n above", h, h.table(0, 21, 1), Due.REFUSED);
        Due.no("6 n below", h, h.table(0, -21, 1), Due.REFUSED);
        Due.no("6 m above", h, h.table(0, 1, 22), Due.REFUSED);
        Due.no("6 m below", h, h.table(0, 1, -21), Due.REFUSED);
        Due.no("6 refused ahead of negative", h, h.table(0, -1, 22), Due.REFUSED);
        Due.no("6 n negative", h, h.table(0, -20, 1), Due.NEGATIVE);
        Due.no("6 m negative", h, h.table(0, 1, -20), Due.NEGATIVE);
        Due.no("6 no lines of fewer than none", h, h.table(0, 0, -1), Due.NEGATIVE);
        Due.is("6 a fault puts nothing", h.size(0, 0), -1);
        Due.no("6 still one line", h, h.entry(0, 0, 0), Due.OUTSIDE);
    }

    private static void scale() {
        LayerHouse h = new LayerHouse();
        Due.doubles(h, 0, 3);
        Due.yes("7 scale", h, h.scale(1, Due.bits(2.0), Due.bits(0.5)));
        Due.yes("7 used", h, h.apply(0, 1, 2));
        Due.holdsDoubles("7 gain, offset", h, 2, 6.5);
        Due.yes("7 of a NaN", h, h.scale(1, 0xfff0000000000001L, 0));
        h.apply(0, 1, 2);
        Due.holdsDoubles("7 of a NaN", h, 2, Double.NaN);
        Due.no("7 p", h, h.scale(12, 0, 0), Due.REFUSED);
        Due.no("7 p", h, h.scale(-1, 0, 0), Due.REFUSED);
    }

    private static void clear() {
        LayerHouse h = new LayerHouse();
        h.band(11, 0, 1);
        Due.yes("8 clear", h, h.clear(11));
        Due.is("8 empty", h.holds(11), -1);
        Due.yes("8 an empty one", h, h.clear(11));
        Due.no("8 p", h, h.clear(12), Due.REFUSED);
        Due.no("8 p", h, h.clear(-1), Due.REFUSED);
    }

    private static void keep() {
        LayerHouse h = new LayerHouse();
        Due.wholes(h, 0, Due.INT, 5, -6);
        Due.yes("9 keep", h, h.keep(0, 1));
        h.set(0, Due.INT, 0, 7);
        Due.holds("9 a copy of its own", h, 1, Due.INT, 5, -6);
        h.set(1, Due.INT, 1, 8);
        Due.holds("9 a copy of its own", h, 0, Due.INT, 7, -6);
        Due.yes("9 on itself", h, h.keep(0, 0));
        Due.holds("9 on itself", h, 0, Due.INT, 7, -6);
        h.band(2, Due.INT, 0);
        Due.yes("9 no cells", h, h.keep(2, 0));
        Due.holds("9 no cells", h, 0, Due.INT);
        Due.no("9 missing", h, h.keep(5, 1), Due.MISSING);
        h.band(5, Due.LONG, 1);
        Due.no("9 wrong kind", h, h.keep(5, 1), Due.WRONG);
        h.scale(5, 0, 0);
        Due.no("9 wrong", h, h.keep(5, 1), Due.WRONG);
        Due.no("9 p", h, h.keep(12, 1), Due.REFUSED);
        Due.no("9 q", h, h.keep(5, -1), Due.REFUSED);
        Due.holds("9 a fault puts nothing", h, 1, Due.INT, 5, 8);
    }
}
