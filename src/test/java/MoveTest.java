/** Promise 18: move. */
public final class MoveTest {
    public static void main(String[] args) {
        cells();
        overlapping();
        order();
        outside();
        rows();
        tables();
        rowsAndTables();
        Due.end("MoveTest");
    }

    private static void cells() {
        LayerHouse h = new LayerHouse();
        for (int kind = 0; kind < 8; kind++) {
            Due.wholes(h, 0, kind, 1, 0, 1);
            h.band(1, kind, 4);
            Due.yes("18 move", h, h.move(0, 0, 1, 1, 3));
            Due.holds("18 moved", h, 1, kind, 0, 1, 0, 1);
            Due.holds("18 what is moved stays", h, 0, kind, 1, 0, 1);
        }
        Due.yes("18 none", h, h.move(0, 3, 1, 4, 0));
    }

    private static void overlapping() {
        LayerHouse h = new LayerHouse();
        Due.wholes(h, 0, Due.INT, 1, 2, 3, 4, 5);
        h.move(0, 0, 0, 1, 4);
        Due.holds("18 upwards", h, 0, Due.INT, 1, 1, 2, 3, 4);
        Due.wholes(h, 0, Due.INT, 1, 2, 3, 4, 5);
        h.move(0, 1, 0, 0, 4);
        Due.holds("18 downwards", h, 0, Due.INT, 2, 3, 4, 5, 5);
        h.row(1, 0, 4);
        for (int i = 0; i < 4; i++) {
            h.feature(1, i, 1, i);
        }
        h.move(1, 0, 1, 1, 3);
        for (int i = 0; i < 4; i++) {
            Due.is("18 a row upwards", h.about(1, i, 1), Math.max(i - 1, 0));
        }
        h.move(1, 1, 1, 0, 3);
        for (int i = 0; i < 4; i++) {
            Due.is("18 a row downwards", h.about(1, i, 1), Math.min(i, 2));
        }
    }

    private static void order() {
        LayerHouse h = new LayerHouse();
        Due.no("18 p", h, h.move(-1, 0, 0, 0, 0), Due.REFUSED);
        Due.no("18 q", h, h.move(0, 0, 12, 0, 0), Due.REFUSED);
        Due.no("18 both missing", h, h.move(0, 0, 1, 0, 0), Due.MISSING);
        h.scale(0, 0, 0);
        Due.no("18 q missing ahead of p wrong", h, h.move(0, 0, 1, 0, -1), Due.MISSING);
        Due.no("18 p missing ahead of q wrong", h, h.move(1, 0, 0, 0, -1), Due.MISSING);
        Due.no("18 scales", h, h.move(0, 0, 0, 0, 0), Due.WRONG);
        h.band(1, Due.INT, 2);
        Due.no("18 a scale to a band", h, h.move(0, 0, 1, 0, 0), Due.WRONG);
        Due.no("18 wrong ahead of outside", h, h.move(1, 0, 0, 0, -1), Due.WRONG);
        h.band(0, Due.LONG, 2);
        Due.no("18 another kind", h, h.move(0, 0, 1, 0, 0), Due.WRONG);
        h.row(0, 0, 2);
        Due.no("18 a row to a band", h, h.move(0, 0, 1, 0, 0), Due.WRONG);
        Due.no("18 a band to a row", h, h.move(1, 0, 0, 0, 0), Due.WRONG);
        h.table(0, 2, 2);
        Due.no("18 a table to a band", h, h.move(0, 0, 1, 0, 0), Due.WRONG);
    }

    private static void outside() {
        LayerHouse h = new LayerHouse();
        h.band(0, Due.INT, 3);
        Due.wholes(h, 1, Due.INT, 1, 2, 3, 4);
        h.row(2, 0, 3);
        h.table(3, 4, 1);
        for (int p = 0; p < 4; p += 2) {
            Due.no("18 i below", h, h.move(p, -1, p + 1, 0, 1), Due.OUTSIDE);
            Due.no("18 j below", h, h.move(p, 0, p + 1, -1, 1), Due.OUTSIDE);
            Due.no("18 n below", h, h.move(p, 0, p + 1, 0, -1), Due.OUTSIDE);
            Due.no("18 beyond p", h, h.move(p, 1, p + 1, 0, 3), Due.OUTSIDE);
            Due.no("18 beyond q", h, h.move(p, 0, p + 1, 2, 3), Due.OUTSIDE);
            Due.no("18 n greatest", h, h.move(p, 1, p + 1, 1, Integer.MAX_VALUE), Due.OUTSIDE);
            Due.no("18 i greatest", h, h.move(p, Integer.MAX_VALUE, p + 1, 0, 1), Due.OUTSIDE);
            Due.no("18 j greatest", h, h.move(p, 0, p + 1, Integer.MAX_VALUE, 3), Due.OUTSIDE);
            Due.no("18 none from beyond", h, h.move(p, 4, p + 1, 0, 0), Due.OUTSIDE);
        }
        Due.holds("18 nothing is moved", h, 1, Due.INT, 1, 2, 3, 4);
    }

    private static void rows() {
        LayerHouse h = new LayerHouse();
        h.row(0, 0, 5);
        h.feature(0, 0, 3, 30);
        h.feature(0, 2, 2, 20);
        h.feature(0, 3, 1, 10);
        h.feature(0, 4, 3, 31);
        h.row(1, 2, 5);
        h.feature(1, 1, 2, 99);
        Due.no("18 a line among points", h, h.move(0, 0, 1, 0, 5), Due.UNFIT);
        Due.yes("18 moved ahead of it", h, h.about(1, 0, 1), 30);
        Due.no("18 void is moved too", h, h.about(1, 1, 1), Due.MISSING);
        Due.yes("18 moved ahead of it", h, h.about(1, 2, 1), 20);
        Due.no("18 not moved", h, h.about(1, 3, 1), Due.MISSING);
        Due.no("18 nor behind it", h, h.about(1, 4, 1), Due.MISSING);
        h.row(2, 3, 2);
        Due.yes("18 a peak of points among peaks", h, h.move(1, 0, 2, 0, 2));
        Due.yes("18 a peak", h, h.about(2, 0, 3), 30);
        Due.no("18 a point among peaks", h, h.move(1, 2, 2, 0, 1), Due.UNFIT);
        Due.yes("18 stays", h, h.about(2, 0, 3), 30);
    }

    private static void tables() {
        LayerHouse h = new LayerHouse();
        h.table(0, 3, 2);
        h.table(1, 3, 21);
        h.line(0, 1, -1);
        h.enter(0, 0, 0, 5);
        Due.yes("18 lines", h, h.move(0, 0, 1, 1, 2));
        Due.yes("18 moved", h, h.entry(1, 1, 0), 5);
        Due.no("18 void", h, h.entry(1, 2, 0), Due.MISSING);
        h.enter(1, 1, 1, 6);
        Due.yes("18 the same line in both", h, h.entry(0, 0, 1), 6);
        h.line(0, 0, 1);
        Due.yes("18 a new line is apart", h, h.entry(1, 1, 1), 6);
        h.move(1, 1, 1, 0, 1);
        h.enter(1, 0, 0, 8);
        Due.yes("18 the same line twice in one", h, h.entry(1, 1, 0), 8);
    }

    private static void rowsAndTables() {
        LayerHouse h = new LayerHouse();
        h.row(0, 0, 3);
        h.table(1, 3, 1);
        Due.yes("18 void places to a table", h, h.move(0, 0, 1, 0, 2));
        Due.no("18 void there", h, h.entry(1, 0, 0), Due.MISSING);
        Due.yes("18 not moved", h, h.entry(1, 2, 0), 0);
        h.feature(0, 1, 1, 4);
        h.line(1, 0, 1);
        Due.no("18 a feature in a table", h, h.move(0, 0, 1, 0, 3), Due.UNFIT);
        Due.no("18 moved ahead of it", h, h.entry(1, 0, 0), Due.MISSING);
        Due.yes("18 not behind it", h, h.entry(1, 2, 0), 0);
        Due.no("18 a line of a table in a row", h, h.move(1, 2, 0, 0, 1), Due.UNFIT);
        Due.yes("18 a void line in a row", h, h.move(1, 0, 0, 1, 1));
        Due.no("18 void there", h, h.about(0, 1, 0), Due.MISSING);
        h.row(2, 1, 1);
        Due.no("18 a line of a table among lines", h, h.move(1, 2, 2, 0, 1), Due.UNFIT);
    }
}
