/** Promises 10 to 17: size, get, set, feature, about, entry, enter, line. */
public final class CellsTest {
    public static void main(String[] args) {
        size();
        get();
        set();
        widths();
        feature();
        about();
        entry();
        enter();
        line();
        Due.end("CellsTest");
    }

    private static void size() {
        LayerHouse h = new LayerHouse();
        Due.no("10 missing", h, h.size(0, 0), Due.MISSING);
        h.band(0, Due.FLOAT, 7);
        Due.yes("10 size", h, h.size(0, Due.FLOAT), 7);
        Due.no("10 wrong kind", h, h.size(0, Due.DOUBLE), Due.WRONG);
        h.row(0, 0, 3);
        Due.no("10 a row", h, h.size(0, 0), Due.WRONG);
        Due.no("10 p", h, h.size(12, 0), Due.REFUSED);
        Due.no("10 kind", h, h.size(0, 8), Due.REFUSED);
        Due.no("10 kind below", h, h.size(1, -1), Due.REFUSED);
    }

    private static void get() {
        LayerHouse h = new LayerHouse();
        Due.no("11 missing", h, h.get(0, Due.INT, 5), Due.MISSING);
        Due.wholes(h, 0, Due.INT, -1, 9);
        Due.yes("11 -1", h, h.get(0, Due.INT, 0), -1);
        Due.yes("11 get", h, h.get(0, Due.INT, 1), 9);
        Due.no("11 outside", h, h.get(0, Due.INT, 2), Due.OUTSIDE);
        Due.no("11 outside below", h, h.get(0, Due.INT, -1), Due.OUTSIDE);
        Due.no("11 outside least", h, h.get(0, Due.INT, Integer.MIN_VALUE), Due.OUTSIDE);
        Due.no("11 wrong ahead of outside", h, h.get(0, Due.SHORT, 2), Due.WRONG);
        Due.no("11 p", h, h.get(-1, Due.INT, 0), Due.REFUSED);
        Due.no("11 kind ahead of all", h, h.get(5, 8, 9), Due.REFUSED);
        h.band(0, Due.INT, 0);
        Due.no("11 no cells", h, h.get(0, Due.INT, 0), Due.OUTSIDE);
    }

    private static void set() {
        LayerHouse h = new LayerHouse();
        Due.no("12 missing", h, h.set(0, Due.INT, 5, 1), Due.MISSING);
        h.band(0, Due.INT, 2);
        Due.yes("12 set", h, h.set(0, Due.INT, 1, 6));
        Due.holds("12 set", h, 0, Due.INT, 0, 6);
        Due.no("12 outside", h, h.set(0, Due.INT, 2, 1), Due.OUTSIDE);
        Due.no("12 outside below", h, h.set(0, Due.INT, -1, 1), Due.OUTSIDE);
        Due.no("12 wrong ahead of outside", h, h.set(0, Due.LONG, 2, 1), Due.WRONG);
        Due.no("12 p", h, h.set(12, Due.INT, 0, 1), Due.REFUSED);
        Due.no("12 kind", h, h.set(0, -1, 0, 1), Due.REFUSED);
        Due.holds("12 a fault sets nothing", h, 0, Due.INT, 0, 6);
    }

    private static void widths() {
        LayerHouse h = new LayerHouse();
        Due.wholes(h, 0, Due.BYTE, 127, -128, 128, 255, 256, -129);
        Due.holds("12 BYTE", h, 0, Due.BYTE, 127, -128, -128, -1, 0, 127);
        Due.wholes(h, 0, Due.SIGN, 0, 65535, 65536, -1);
        Due.holds("12 SIGN", h, 0, Due.SIGN, 0, 65535, 0, 65535);
        Due.wholes(h, 0, Due.SHORT, 32767, -32768, 32768, 65535);
        Due.holds("12 SHORT", h, 0, Due.SHORT, 32767, -32768, -32768, -1);
        Due.wholes(h, 0, Due.INT, 2147483647L, -2147483648L, 2147483648L, 0x100000000L);
        Due.holds("12 INT", h, 0, Due.INT, 2147483647L, -2147483648L, -2147483648L, 0);
        Due.wholes(h, 0, Due.LONG, Long.MAX_VALUE, Long.MIN_VALUE);
        Due.holds("12 LONG", h, 0, Due.LONG, Long.MAX_VALUE, Long.MIN_VALUE);
        Due.wholes(h, 0, Due.MARK, 1, 2, 3, -1, 0);
        Due.holds("12 MARK", h, 0, Due.MARK, 1, 0, 1, 1, 0);
        Due.wholes(h, 0, Due.FLOAT, 0x3f800000L, 0x80000000L, 0x123f800000L, 0x7f800001L, 0xffc00001L, 0xff800000L, -1);
        Due.holds("12 FLOAT", h, 0, Due.FLOAT, 0x3f800000L, 0x80000000, 0x3f800000L, 0x7fc00000L, 0x7fc00000L, 0xff800000, 0x7fc00000L);
        Due.wholes(h, 0, Due.DOUBLE, 0x3ff0000000000000L, Long.MIN_VALUE, 0x7ff0000000000001L, -1, 0xfff0000000000000L);
        Due.holds("12 DOUBLE", h, 0, Due.DOUBLE, 0x3ff0000000000000L, Long.MIN_VALUE, 0x7ff8000000000000L, 0x7ff8000000000000L, 0xfff0000000000000L);
    }

    private static void feature() {
        LayerHouse h = new LayerHouse();
        Due.no("13 missing", h, h.feature(0, 0, 1, 5), Due.MISSING);
        boolean[][] fits = {{true, true, true, true}, {true, true, false, false}, {true, false, true, true}, {true, false, false, true}};
        for (int rowSort = 0; rowSort < 4; rowSort++) {
            h.row(rowSort, rowSort, 2);
            for (int sort = 0; sort < 4; sort++) {
                if (fits[rowSort][sort]) {
                    Due.yes("13 fits " + rowSort + sort, h, h.feature(rowSort, 1, sort, 10 + sort));
                } else {
                    Due.no("13 unfit " + rowSort + sort, h, h.feature(rowSort, 1, sort, 10 + sort), Due.UNFIT);
                }
            }
        }
        Due.yes("13 number", h, h.about(0, 1, 1), 13);
        Due.yes("13 what was unfit is not there", h, h.about(1, 1, 1), 11);
        Due.yes("13 void", h, h.feature(0, 1, 0, 9));
        Due.no("13 void", h, h.about(0, 1, 1), Due.MISSING);
        Due.no("13 outside", h, h.feature(0, 2, 1, 5), Due.OUTSIDE);
        Due.no("13 outside of void", h, h.feature(0, -1, 0, 5), Due.OUTSIDE);
        Due.no("13 outside ahead of unfit", h, h.feature(3, 2, 1, 5), Due.OUTSIDE);
        h.table(4, 2, 2);
        Due.no("13 wrong ahead of outside", h, h.feature(4, 7, 1, 5), Due.WRONG);
        Due.no("13 p", h, h.feature(12, 0, 1, 5), Due.REFUSED);
        Due.no("13 sort ahead of missing", h, h.feature(9, 0, 4, 5), Due.REFUSED);
        Due.no("13 sort", h, h.feature(0, 0, -1, 5), Due.REFUSED);
    }

    private static void about() {
        LayerHouse h = new LayerHouse();
        Due.no("14 missing", h, h.about(0, 0, 0), Due.MISSING);
        h.row(0, 0, 4);
        h.feature(0, 0, 1, -100);
        h.feature(0, 1, 2, 200);
        h.feature(0, 2, 3, Integer.MIN_VALUE);
        long[][] due = {{1, -100, Due.WRONG, Due.WRONG, -100}, {2, 200, 200, Due.WRONG, Due.WRONG},
            {3, Integer.MIN_VALUE, Integer.MIN_VALUE, Integer.MIN_VALUE, Due.WRONG}};
        boolean[][] good = {{true, true, false, false, true}, {true, true, true, false, false}, {true, true, true, true, false}};
        for (int i = 0; i < 3; i++) {
            for (int what = 0; what < 5; what++) {
                if (good[i][what]) {
                    Due.yes("14 about " + i + what, h, h.about(0, i, what), due[i][what]);
                } else {
                    Due.no("14 none such " + i + what, h, h.about(0, i, what), (int) due[i][what]);
                }
            }
        }
        for (int what = 0; what < 5; what++) {
            Due.no("14 void " + what, h, h.about(0, 3, what), Due.MISSING);
        }
        Due.no("14 outside", h, h.about(0, 4, 0), Due.OUTSIDE);
        Due.no("14 outside below", h, h.about(0, -1, 0), Due.OUTSIDE);
        Due.no("14 what", h, h.about(0, 0, 5), Due.REFUSED);
        Due.no("14 what below", h, h.about(0, 0, -1), Due.REFUSED);
        Due.no("14 p", h, h.about(-1, 0, 0), Due.REFUSED);
        h.table(0, 4, 4);
        Due.no("14 a table", h, h.about(0, 9, 0), Due.WRONG);
    }

    private static void entry() {
        LayerHouse h = new LayerHouse();
        Due.no("15 missing", h, h.entry(0, 0, 0), Due.MISSING);
        h.table(0, 3, 2);
        h.line(0, 1, -1);
        h.enter(0, 2, 1, -77);
        Due.yes("15 entry", h, h.entry(0, 2, 1), -77);
        Due.no("15 i", h, h.entry(0, 3, 0), Due.OUTSIDE);
        Due.no("15 i below", h, h.entry(0, -1, 0), Due.OUTSIDE);
        Due.no("15 void ahead of j", h, h.entry(0, 1, 9), Due.MISSING);
        Due.no("15 j", h, h.entry(0, 0, 2), Due.OUTSIDE);
        Due.no("15 j below", h, h.entry(0, 0, -1), Due.OUTSIDE);
        Due.no("15 p", h, h.entry(12, 0, 0), Due.REFUSED);
        h.row(0, 0, 3);
        Due.no("15 a row", h, h.entry(0, 9, 0), Due.WRONG);
    }

    private static void enter() {
        LayerHouse h = new LayerHouse();
        Due.no("16 missing", h, h.enter(0, 0, 0, 1), Due.MISSING);
        h.table(0, 2, 2);
        Due.yes("16 enter", h, h.enter(0, 0, 1, Integer.MAX_VALUE));
        Due.is("16 entered", h.entry(0, 0, 1), Integer.MAX_VALUE);
        Due.is("16 in one line alone", h.entry(0, 1, 1), 0);
        Due.no("16 i", h, h.enter(0, 2, 0, 1), Due.OUTSIDE);
        Due.no("16 j", h, h.enter(0, 0, 2, 1), Due.OUTSIDE);
        h.line(0, 1, -1);
        Due.no("16 void ahead of j", h, h.enter(0, 1, 9, 1), Due.MISSING);
        Due.no("16 p", h, h.enter(-1, 0, 0, 1), Due.REFUSED);
        h.band(0, Due.INT, 4);
        Due.no("16 a band", h, h.enter(0, 0, 0, 1), Due.WRONG);
    }

    private static void line() {
        LayerHouse h = new LayerHouse();
        Due.no("17 missing", h, h.line(0, 0, 1), Due.MISSING);
        h.table(0, 2, 2);
        h.enter(0, 0, 0, 4);
        Due.yes("17 a longer one", h, h.line(0, 0, 20));
        Due.yes("17 a new one", h, h.entry(0, 0, 0), 0);
        Due.yes("17 long", h, h.entry(0, 0, 19), 0);
        Due.no("17 long", h, h.entry(0, 0, 20), Due.OUTSIDE);
        Due.yes("17 void", h, h.line(0, 0, LayerHouse.NONE));
        Due.no("17 void", h, h.entry(0, 0, 0), Due.MISSING);
        Due.yes("17 no numbers", h, h.line(0, 0, 0));
        Due.no("17 no numbers", h, h.entry(0, 0, 0), Due.OUTSIDE);
        Due.no("17 outside", h, h.line(0, 2, 1), Due.OUTSIDE);
        Due.no("17 outside below", h, h.line(0, -1, 1), Due.OUTSIDE);
        Due.no("17 n above", h, h.line(0, 0, 21), Due.REFUSED);
        Due.no("17 n below", h, h.line(0, 0, -2), Due.REFUSED);
        Due.no("17 p", h, h.line(12, 0, 1), Due.REFUSED);
        h.row(0, 1, 1);
        Due.no("17 a row", h, h.line(0, 5, 1), Due.WRONG);
    }
}
