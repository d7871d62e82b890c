/** Promises 27 to 33: images and sheets. */
public final class ImageSheetTest {
    private static final int NONE = GridTracks.NONE;
    private static final Check check = new Check("ImageSheetTest");

    public static void main(String[] args) {
        images();
        imagesAreNotTheGrid();
        sheet();
        lay();
        lanes();
        read();
        readRefused();
        readTorn();
        tornOfTheLatest();
        count();
        check.end();
    }

    private static void images() {
        GridTracks x = check.told("cols fix 7 auto; gap 3 4; width 50; high 6; line b 2; item 1 2 17 18 col 1 row 2; item 2 1 1 1;");
        check.due("keep(2)", x.keep(2), -1);
        check.due("keep(-1)", x.keep(-1), -1);
        check.due("back(2)", x.back(2), -1);
        check.due("back(-1)", x.back(-1), -1);
        check.due("back(0)", x.back(0), -2);
        check.due("count(0)", x.count(0), 0);
        check.due("keep(1)", x.keep(1), 0);
        check.due("back(0)", x.back(0), -2);
        check.due("count(0)", x.count(0), 1);
        changeAll(x);
        check.due("keep(0)", x.keep(0), 0);
        check.due("back(1)", x.back(1), 2);
        int[] rules = {2, 4, 2, 0, 50, 3, 4, 6};
        for (int what = 0; what < rules.length; what++) {
            check.due("rule(" + what + ")", x.rule(what), rules[what]);
        }
        check.columns(x, 0, 0, 1);
        check.columns(x, 1, 7, NONE);
        check.item(x, 0, 1, 2, 17, 18, 1, 2, 1, 2);
        check.item(x, 1, 2, 1, 1, 1, NONE, NONE, 0, 0);
        check.due("line(1)", x.line(1), 2);
        check.due("back(0)", x.back(0), 3);
        check.due("rule(7)", x.rule(7), 1);
        check.due("column(0, 0)", x.column(0, 0), 2);
        check.due("keep(0)", x.keep(0), 1);
        check.due("keep(1)", x.keep(1), 1);
        check.due("count(0)", x.count(0), 2);
    }

    private static void changeAll(GridTracks x) {
        x.gap(1, 1);
        x.width(NONE);
        x.high(1);
        x.track(0, 2, 3);
        x.track(1, 0, 9);
        x.swap(0, 1);
        x.pin(1, 0, NONE);
        x.set(1, 2, 90);
        x.add(1, 1, 1, 1);
    }

    private static void imagesAreNotTheGrid() {
        GridTracks x = check.told("cols auto; item 1 1 5 6;");
        x.keep(0);
        x.back(0);
        x.set(0, 2, 9);
        x.track(0, 0, 4);
        check.due("back(0)", x.back(0), 1);
        check.due("item(0, 2)", x.item(0, 2), 5);
        check.due("column(0, 2)", x.column(0, 2), 5);
        x.drop(0);
        x.keep(1);
        check.due("back(0)", x.back(0), 1);
        check.due("back(1)", x.back(1), 0);
        check.due("rule(2)", x.rule(2), 0);
    }

    private static void sheet() {
        GridTracks x = new GridTracks();
        int[][] wrong = {{4, 0, 1}, {-1, 0, 1}, {0, 3, 1}, {0, -1, 1}, {0, 0, 41}, {4, 0, -1}, {0, 3, -1}, {0, 0, Integer.MAX_VALUE}};
        for (int[] w : wrong) {
            check.due("sheet(" + w[0] + ", " + w[1] + ", " + w[2] + ")", x.sheet(w[0], w[1], w[2]), -1);
        }
        check.due("sheet(0, 0, -1)", x.sheet(0, 0, -1), -14);
        check.due("sheet(0, 0, min)", x.sheet(0, 0, Integer.MIN_VALUE), -14);
        check.due("count(3)", x.count(3), NONE);
        check.due("lay(0, 0, 0)", x.lay(0, 0, 0), -11);
        check.due("sheet(0, 2, 40)", x.sheet(0, 2, 40), 1);
        check.due("count(3)", x.count(3), 40);
        check.due("sheet(0, 0, -1)", x.sheet(0, 0, -1), -14);
        check.due("count(3)", x.count(3), 40);
        check.due("sheet(0, 0, 0)", x.sheet(0, 0, 0), 1);
        check.due("count(3)", x.count(3), 0);
        check.due("lay(0, 0, 0)", x.lay(0, 0, 0), -12);
        check.due("sheet(3, 1, 2)", x.sheet(3, 1, 2), 1);
        check.due("lay(3, 1, 0)", x.lay(3, 1, 0), 1);
        check.due("lay(2, 1, 0)", x.lay(2, 1, 0), -11);
        cellsAreNew();
    }

    private static void cellsAreNew() {
        GridTracks x = check.told("cols auto;");
        int[] cells = {1, 2, 3, 4};
        layAll(x, 1, 2, cells);
        check.due("read(1, 2, 0, 1)", x.read(1, 2, 0, 1), 1);
        check.due("sheet(1, 2, 4)", x.sheet(1, 2, 4), 1);
        check.due("read(1, 2, 0, 1)", x.read(1, 2, 0, 1), -20);
        check.due("lay(1, 0, 1)", x.lay(1, 0, 1), 1);
        check.due("lay(1, 1, 1)", x.lay(1, 1, 1), 1);
        check.due("read(1, 2, 0, 1)", x.read(1, 2, 0, 1), 1);
        check.item(x, 1, 1, 1, 0, 0);
    }

    private static void layAll(GridTracks x, int k, int lane, int[] cells) {
        x.sheet(k, lane, cells.length);
        for (int i = 0; i < cells.length; i++) {
            check.due("lay(" + k + ", " + i + ")", x.lay(k, i, cells[i]), 1);
        }
    }

    private static void lay() {
        GridTracks x = new GridTracks();
        x.sheet(2, 0, 3);
        check.due("lay(4, 0, 0)", x.lay(4, 0, 0), -1);
        check.due("lay(-1, 0, 0)", x.lay(-1, 0, 0), -1);
        check.due("lay(2, 3, 0)", x.lay(2, 3, 0), -12);
        check.due("lay(2, -1, 0)", x.lay(2, -1, 0), -12);
        check.due("lay(2, max, 0)", x.lay(2, Integer.MAX_VALUE, 0), -12);
        check.due("lay(2, min, 0)", x.lay(2, Integer.MIN_VALUE, 0), -12);
        check.due("lay(2, 2, min)", x.lay(2, 2, Integer.MIN_VALUE), 1);
        check.due("lay(1, -1, 0)", x.lay(1, -1, 0), -11);
    }

    private static void lanes() {
        int[] cells = {256 + 1, 65536 + 2, (1 << 24) + 3, -256 + 99};
        int[] came = {1, -20, -20};
        for (int lane = 0; lane < 3; lane++) {
            GridTracks x = check.told("cols auto;");
            layAll(x, lane, lane, cells);
            check.due("read of lane " + lane, x.read(lane, lane, 0, 1), came[lane]);
        }
        GridTracks x = check.told("cols auto;");
        layAll(x, 0, 0, cells);
        x.read(0, 0, 0, 1);
        check.item(x, 0, 1, 2, 3, 99);
        x = check.told("cols auto;");
        layAll(x, 0, 1, new int[] {65536 + 1, -65536 + 4, 1 << 16, 98});
        check.due("read(0, 1, 0, 1)", x.read(0, 1, 0, 1), 1);
        check.item(x, 0, 1, 4, 0, 98);
        x.lay(0, 3, 128);
        check.due("read(0, 1, 0, 1)", x.read(0, 1, 0, 1), -20);
        layAll(x, 0, 0, new int[] {1, 1, 255, 0});
        check.due("a byte of 255 is -1", x.read(0, 0, 0, 1), -20);
        layAll(x, 0, 2, new int[] {1, 1, 65536 + 5, 0});
        check.due("an int of 65541", x.read(0, 2, 0, 1), -20);
        layAll(x, 0, 1, new int[] {1, 1, 256 + 5, 0});
        check.due("a short of 261", x.read(0, 1, 0, 1), -20);
    }

    private static void read() {
        GridTracks x = check.told("cols auto auto; item 1 1 1 1 col 0;");
        layAll(x, 3, 2, new int[] {9, 2, 3, 30, 31, 1, 1, 0, 99, 1, 4, 99, 0, 7});
        check.due("read(3, 2, 1, 2)", x.read(3, 2, 1, 2), 2);
        check.due("torn()", x.torn(), 0);
        check.item(x, 0, 1, 1, 1, 1, 0, NONE);
        check.item(x, 1, 2, 3, 30, 31, NONE, NONE, 0, 1);
        check.item(x, 2, 1, 1, 0, 99, NONE, NONE, 1, 0);
        check.due("read(3, 2, 9, 1)", x.read(3, 2, 9, 1), 1);
        check.item(x, 3, 1, 4, 99, 0, NONE, NONE, 0, 4);
        check.due("read(3, 2, 0, 0)", x.read(3, 2, 0, 0), 0);
        check.due("read(3, 2, 99, 0)", x.read(3, 2, 99, 0), 0);
        check.due("torn()", x.torn(), 0);
        int[][] wrong = {{4, 2, 0, 1}, {-1, 2, 0, 1}, {3, 3, 0, 1}, {3, -1, 0, 1}, {3, 2, 0, 11}, {3, 2, 0, -1}};
        for (int[] w : wrong) {
            check.due("a wrong read()", x.read(w[0], w[1], w[2], w[3]), -1);
        }
        check.due("rule(2)", x.rule(2), 4);
    }

    private static void readRefused() {
        GridTracks x = check.told("cols auto auto;");
        layAll(x, 0, 2, new int[] {1, 1, 1, 1, 2, 2, 2, 2, 3, 1, 1, 1, 1, 1, 1});
        check.due("read(0, 2, 0, 3)", x.read(0, 2, 0, 3), -22);
        check.due("rule(2)", x.rule(2), 0);
        check.due("read(0, 2, 0, 10)", x.read(0, 2, 0, 10), -22);
        check.due("read(0, 2, 0, 2)", x.read(0, 2, 0, 2), 2);
        for (int n = 3; n <= 9; n++) {
            x.add(1, 1, 0, 0);
        }
        check.due("the 11th item", x.read(0, 2, 0, 2), -21);
        check.due("rule(2)", x.rule(2), 9);
        check.due("the 10th item", x.read(0, 2, 4, 1), 1);
        check.item(x, 9, 2, 2, 2, 2, NONE, NONE);
        check.due("the 11th item", x.read(0, 2, 0, 1), -20);
        check.due("none is read", x.read(0, 2, 0, 0), 0);
    }

    private static void readTorn() {
        GridTracks x = check.told("cols auto auto;");
        layAll(x, 0, 1, new int[] {1, 1, 1, 1, 2, 2, 2, 2, 5, 1, 1});
        torn(x, 0, 1, 0, 3, 2, 2);
        torn(x, 0, 1, 8, 1, 0, 2);
        torn(x, 0, 1, 7, 1, -20, 2);
        torn(x, 0, 1, 0, 1, 1, 0);
        torn(x, 0, 1, -1, 1, 0, 2);
        torn(x, 0, 1, -4, 2, 0, 2);
        torn(x, 0, 1, Integer.MAX_VALUE, 1, 0, 2);
        torn(x, 0, 1, Integer.MAX_VALUE - 2, 10, 0, 2);
        torn(x, 0, 1, Integer.MIN_VALUE, 10, 0, 2);
        torn(x, 0, 0, 0, 1, 0, 3);
        torn(x, 0, 2, -1, 1, 0, 3);
        torn(x, 1, 2, 0, 1, 0, 1);
        torn(x, 1, 2, -1, 1, 0, 1);
        check.due("rule(2)", x.rule(2), 3);
        nothingIsTorn(x);
    }

    /** No cell is had, so that the machine has nothing to refuse: no lane, no place, no sheet of nothing. */
    private static void nothingIsTorn(GridTracks x) {
        for (int k = 0; k < 2; k++) {
            for (int lane = 0; lane < 3; lane++) {
                torn(x, 1, 0, 0, 1, 0, 1);
                torn(x, k, lane, 0, 0, 0, 0);
                torn(x, 0, 0, 0, 1, 0, 3);
                torn(x, k, lane, -1, 0, 0, 0);
                torn(x, k, lane, Integer.MAX_VALUE, 0, 0, 0);
            }
        }
        check.due("rule(2)", x.rule(2), 3);
    }

    private static void torn(GridTracks x, int k, int lane, int f, int n, int came, int fault) {
        String call = "read(" + k + ", " + lane + ", " + f + ", " + n + ")";
        check.due(call, x.read(k, lane, f, n), came);
        check.due("torn() behind " + call, x.torn(), fault);
    }

    private static void tornOfTheLatest() {
        GridTracks x = check.told("cols auto;");
        x.sheet(0, 0, 4);
        torn(x, 0, 1, 0, 1, 0, 3);
        check.due("refused", x.read(0, 0, 0, 1), -20);
        check.due("torn() stays", x.torn(), 3);
        check.due("wrong", x.read(0, 0, 0, 11), -1);
        check.due("torn() stays", x.torn(), 3);
        check.due("lay(0, 9, 1)", x.lay(0, 9, 1), -12);
        check.due("torn() stays", x.torn(), 3);
        torn(x, 0, 0, 0, 0, 0, 0);
    }

    private static void count() {
        GridTracks x = check.told("cols flex 3 fix 5 auto flex 9; item 1 1 20 5 col 0; item 1 1 30 1 row 2; item 1 1 40 1; item 1 1 9 1 col 1 row 1;"
            + "item 1 1 1 2 col 1 row 1;");
        check.due("count(1)", x.count(1), 4);
        check.due("count(4)", x.count(4), 12);
        check.due("count(5)", x.count(5), 100);
        x.feed('a');
        check.due("count(2)", x.count(2), 1);
        x.keep(1);
        check.due("count(0)", x.count(0), 1);
        x.sheet(1, 0, 9);
        check.due("count(3)", x.count(3), NONE);
        x.sheet(0, 0, 8);
        check.due("count(3)", x.count(3), 8);
        check.due("count(6)", x.count(6), -1);
        check.due("count(-1)", x.count(-1), -1);
    }
}
