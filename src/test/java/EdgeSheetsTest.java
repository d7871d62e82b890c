import java.util.Arrays;

/** Terms, 2, sheets and their faults; promises 27 to 33: keep, back, sheet, lay, read, torn, count. */
public final class EdgeSheetsTest {
    private static final int NONE = GridTracks.NONE;
    private static final int FAR = Integer.MAX_VALUE;
    private static final int LOW = Integer.MIN_VALUE;
    private static final int[] ITEM = {1, 2, 30, 40};
    private static final Check check = new Check("EdgeSheetsTest");

    public static void main(String[] args) {
        imagesAreTwo();
        keepTellsWhetherThereWasOne();
        anImageIsAllButTapeAndSheets();
        backAnswersItems();
        backWithoutAnImage();
        sheetsAreFourOfThreeLanes();
        sheetsHave0To40Cells();
        aSheetIsNewEachTime();
        layItsLowestBits();
        layOutsideOrNowhere();
        read0To10Items();
        readFromEachCell();
        readOutside();
        readOfAnotherLaneOrNothing();
        readAsByAdd();
        theFirstThatIsMet();
        tornOfTheLatestThatCameToAnEnd();
        counts();
        check.end();
    }

    /** Cells on a sheet of a lane. */
    private static void layAll(GridTracks x, int k, int lane, int... cells) {
        check.due("sheet()", x.sheet(k, lane, cells.length), 1);
        for (int i = 0; i < cells.length; i++) {
            check.due("lay(" + k + ", " + i + ")", x.lay(k, i, cells[i]), 1);
        }
    }

    private static GridTracks withCells(int lane, int... cells) {
        GridTracks x = check.told("cols auto auto;");
        layAll(x, 0, lane, cells);
        return x;
    }

    /** As many whole items as told, one behind another. */
    private static int[] items(int n) {
        int[] cells = new int[4 * n];
        for (int i = 0; i < cells.length; i++) {
            cells[i] = ITEM[i % 4];
        }
        return cells;
    }

    /** Promise 27: "IMAGE k (0, 1)". */
    private static void imagesAreTwo() {
        Edge edge = new Edge(check, "cols auto;item 1 1 1 1;");
        edge.bounds(0, 1, "keep", 0, 0);
        edge.bounds(0, 1, "back", 0, 0);
        check.due("count(0)", edge.taken(0, "keep", 0).count(0), 1);
        check.due("count(0)", edge.taken(0, "keep", 1).count(0), 1);
    }

    /** Promise 27: "whether there was one (1, 0)". */
    private static void keepTellsWhetherThereWasOne() {
        GridTracks x = new GridTracks();
        check.due("keep(0)", x.keep(0), 0);
        check.due("keep(0) again", x.keep(0), 1);
        check.due("keep(1)", x.keep(1), 0);
        check.due("keep(1) again", x.keep(1), 1);
        check.due("count(0)", x.count(0), 2);
        check.due("back(0)", x.back(0), 0);
        check.due("an image is not used up", x.keep(0), 1);
    }

    /** Promise 27: "COLUMNS, GAPS, WIDTH, HIGH, ITEMS, LINES"; tape, sheets and faults are not of it. */
    private static void anImageIsAllButTapeAndSheets() {
        String text = "cols fix 1 flex 2;gap 3 4;width 50;high 6;line a 1;line h 2;item 1 1 7 8 col 1 row 9;item 2 1 9 9;";
        String all = Probe.part(check.told(text), 0);
        GridTracks x = check.told(text);
        x.keep(1);
        x.drop(0);
        x.set(0, 0, 1);
        x.pin(0, 1, 5);
        x.track(0, 1, 0);
        x.track(1, 0, 3);
        x.gap(0, 0);
        x.width(NONE);
        x.high(0);
        x.scatter(1, 10);
        x.keep(0);
        check.due("back(1)", x.back(1), 2);
        x.keep(0);
        check.due("back(1)", x.back(1), 2);
        check.holds("all is as it was", Probe.part(x, 0).replace("count(0) 2", "count(0) 0").equals(all));
        GridTracks y = check.told("cols auto;");
        y.keep(0);
        layAll(y, 0, 0, 1, 2);
        y.read(0, 1, 0, 1);
        Check.feed(y, "gap");
        y.text();
        Check.feed(y, "high");
        check.due("back(0)", y.back(0), 0);
        check.due("count(2)", y.count(2), 4);
        check.due("count(3)", y.count(3), 2);
        check.due("torn()", y.torn(), 3);
        check.due("fault()", y.fault(), 2);
    }

    /** Promise 28: "All is as IMAGE k: ITEMS." From none to ten. */
    private static void backAnswersItems() {
        for (int n = 0; n <= 10; n++) {
            GridTracks x = check.told("cols auto;" + "item 1 1 1 1;".repeat(n));
            x.keep(0);
            if (n > 0) {
                x.drop(0);
            } else {
                x.add(1, 1, 1, 1);
            }
            check.due("back(0)", x.back(0), n);
            check.due("rule(2)", x.rule(2), n);
        }
    }

    /** Promise 28: "BAD; STATE: there is none." */
    private static void backWithoutAnImage() {
        Edge none = new Edge(check, "cols auto;item 1 1 1 1;");
        none.refused(-2, "back", 0);
        none.refused(-2, "back", 1);
        none.refused(-1, "back", 2);
        GridTracks x = check.told("cols auto;");
        x.keep(1);
        check.due("back(0)", x.back(0), -2);
        check.due("back(1)", x.back(1), 0);
    }

    /** "SHEETS 0 to 3 are rows of BYTES (lane 0), SHORTS (1), INTS (2)". */
    private static void sheetsAreFourOfThreeLanes() {
        Edge edge = new Edge(check, "cols auto;");
        edge.bounds(0, 3, "sheet", 0, 0, 0, 1);
        edge.bounds(0, 2, "sheet", 1, 0, 0, 1);
        for (int k = 0; k < 4; k++) {
            for (int lane = 0; lane < 3; lane++) {
                GridTracks x = check.told("cols auto;");
                layAll(x, k, lane, ITEM);
                for (int other = 0; other < 4; other++) {
                    check.due("read() of sheet " + other, x.read(other, lane, 0, 1), other == k ? 1 : 0);
                    check.due("torn()", x.torn(), other == k ? 0 : 1);
                }
            }
        }
    }

    /** "with 0 to 40 CELLS"; promise 29: "BAD: also n above 40; -10 - 4". */
    private static void sheetsHave0To40Cells() {
        Edge edge = new Edge(check, "cols auto;");
        for (int n : new int[] {0, 1, 39, 40}) {
            GridTracks x = edge.taken(1, "sheet", 0, 2, n);
            check.due("count(3)", x.count(3), n);
            check.due("the last cell", x.lay(0, n - 1, 5), n == 0 ? -12 : 1);
            check.due("no cell behind", x.lay(0, n, 5), -12);
        }
        edge.refused(-1, "sheet", 0, 2, 41);
        edge.refused(-1, "sheet", 0, 2, FAR);
        edge.refused(-14, "sheet", 0, 2, -1);
        edge.refused(-14, "sheet", 0, 2, LOW);
        Edge had = new Edge(check, () -> withCells(1, items(2)));
        had.refused(-1, "sheet", 0, 1, 41);
        had.refused(-14, "sheet", 0, 1, -1);
        had.refused(-1, "sheet", 0, 3, -1);
        had.refused(-1, "sheet", -1, 0, -1);
    }

    /** Promise 29: "A SHEET is a new row of CELLS 0: 1." Of the same lane and of another. */
    private static void aSheetIsNewEachTime() {
        for (int lane = 0; lane < 3; lane++) {
            GridTracks x = withCells(1, items(3));
            check.due("sheet()", x.sheet(0, lane, 12), 1);
            x.lay(0, 4, 1);
            x.lay(0, 5, 1);
            check.due("a cell of 0 is no WIDE", x.read(0, lane, 0, 1), -20);
            check.due("cells of 0 are needs", x.read(0, lane, 4, 1), 1);
            check.item(x, 0, 1, 1, 0, 0);
        }
        GridTracks x = withCells(1, items(3));
        x.sheet(0, 1, 3);
        x.sheet(0, 1, 12);
        check.due("what was behind a shorter row is 0, too", x.read(0, 1, 8, 1), -20);
    }

    /** Promise 30: "CELL i of a SHEET becomes v (its lowest bits): 1." */
    private static void layItsLowestBits() {
        int[] wraps = {1 << 8, 1 << 16, 0};
        for (int lane = 0; lane < 3; lane++) {
            int wrap = wraps[lane];
            GridTracks x = withCells(lane, 1 + wrap, 2 - wrap, 30 + 3 * wrap, 40 - 5 * wrap);
            check.due("read()", x.read(0, lane, 0, 1), 1);
            check.item(x, 0, 1, 2, 30, 40);
        }
        int[] widest = {127, 32767, FAR};
        for (int lane = 0; lane < 3; lane++) {
            for (int v : new int[] {widest[lane], widest[lane] + 1, -1}) {
                check.due("a need out of its bounds", withCells(lane, 1, 1, v, 0).read(0, lane, 0, 1), -20);
            }
        }
        check.due("a byte of 128 is below 0", withCells(0, 1, 1, 128, 0).read(0, 0, 0, 1), -20);
        check.due("a byte of 256 is 0", withCells(0, 1, 1, 256, 0).read(0, 0, 0, 1), 1);
        check.due("a short of 256 is 256", withCells(1, 1, 1, 256, 0).read(0, 1, 0, 1), -20);
        check.due("a short of 65536 is 0", withCells(1, 1, 1, 65536, 0).read(0, 1, 0, 1), 1);
        check.due("an int of 65536 is 65536", withCells(2, 1, 1, 65536, 0).read(0, 2, 0, 1), -20);
    }

    /** Promise 30: "BAD: k; -10 less the FAULT: NULL, INDEX." */
    private static void layOutsideOrNowhere() {
        Edge edge = new Edge(check, () -> withCells(1, items(2)));
        edge.bounds(0, 3, "lay", 0, 0, 0, 1);
        for (int i : new int[] {-1, 8, 40, FAR, LOW}) {
            edge.refused(-12, "lay", 0, i, 1);
            edge.refused(-11, "lay", 1, i, 1);
        }
        check.due("the first cell", edge.taken(1, "lay", 0, 0, 2).read(0, 1, 0, 1), 1);
        check.due("the last cell", edge.taken(1, "lay", 0, 7, 100).read(0, 1, 4, 1), -20);
    }

    /** Promise 31: "n (0 to 10) ITEMS .. one behind another as by add(): how many came". */
    private static void read0To10Items() {
        Edge edge = new Edge(check, () -> withCells(2, items(10)));
        edge.bounds(0, 10, "read", 3, 0, 2, 0, 1);
        edge.bounds(0, 3, "read", 0, 0, 2, 0, 0);
        edge.bounds(0, 2, "read", 1, 0, 2, 0, 0);
        for (int n = 0; n <= 10; n++) {
            GridTracks x = edge.taken(n, "read", 0, 2, 0, n);
            check.due("rule(2)", x.rule(2), n);
            check.due("torn()", x.torn(), 0);
            check.due("count(1)", x.count(1), 0);
        }
        check.item(edge.taken(10, "read", 0, 2, 0, 10), 9, 1, 2, 30, 40, NONE, NONE, 1, 8);
    }

    /** Promise 31: "four CELLS each from CELL f on". */
    private static void readFromEachCell() {
        int[] cells = {1, 1, 1, 2, 2, 2, 1, 1, 2, 1};
        for (int f = 0; f <= 6; f++) {
            GridTracks x = withCells(0, cells);
            check.due("read(0, 0, " + f + ", 1)", x.read(0, 0, f, 1), 1);
            check.item(x, 0, cells[f], cells[f + 1], cells[f + 2], cells[f + 3]);
        }
        GridTracks x = withCells(0, cells);
        check.due("two of them", x.read(0, 0, 2, 2), 2);
        check.item(x, 1, 1, 1, 2, 1);
        x = withCells(0, cells);
        check.due("two of them and a half", x.read(0, 0, 3, 2), 1);
        check.due("torn()", x.torn(), 2);
    }

    /** Promise 31: "What the machine refuses: those that were whole ahead came". INDEX. */
    private static void readOutside() {
        for (int cells = 0; cells <= 12; cells++) {
            for (int n = 1; n <= 3; n++) {
                int[] some = Arrays.copyOf(items(3), cells);
                GridTracks x = withCells(1, some);
                int whole = Math.min(n, cells / 4);
                check.due("read() of " + cells + " cells", x.read(0, 1, 0, n), whole);
                check.due("torn()", x.torn(), whole == n ? 0 : 2);
                check.due("rule(2)", x.rule(2), whole);
            }
        }
        for (int f : new int[] {-1, -3, -4, -5, -8, 9, 12, 13, 40, FAR, FAR - 3, FAR - 7, LOW, LOW + 3}) {
            GridTracks x = withCells(1, items(3));
            check.due("read(0, 1, " + f + ", 10)", x.read(0, 1, f, 10), 0);
            check.due("torn()", x.torn(), 2);
            check.due("rule(2)", x.rule(2), 0);
        }
    }

    /** CAST, NULL: found as the first cell is had, whatever f is; nothing comes. */
    private static void readOfAnotherLaneOrNothing() {
        for (int lane = 0; lane < 3; lane++) {
            for (int as = 0; as < 3; as++) {
                for (int f : new int[] {0, -1, 8, FAR, LOW}) {
                    GridTracks x = withCells(lane, items(2));
                    x.sheet(2, lane, 0);
                    int fault = as != lane ? 3 : f == 0 ? 0 : 2;
                    tornBehind(x, 0, as, f, fault == 0 ? 1 : 0, fault);
                    tornBehind(x, 1, as, f, 0, 1);
                    tornBehind(x, 2, as, f, 0, as != lane ? 3 : 2);
                }
            }
        }
    }

    private static void tornBehind(GridTracks x, int k, int lane, int f, int came, int fault) {
        String call = "read(" + k + ", " + lane + ", " + f + ", 1)";
        check.due(call, x.read(k, lane, f, 1), came);
        check.due("torn() behind " + call, x.torn(), fault);
        check.due("none is read", x.read(k, lane, f, 0), 0);
        check.due("torn() behind none", x.torn(), 0);
    }

    /** Promise 31: "-20 less i: the i-th, whole, is refused by add(): then none came". */
    private static void readAsByAdd() {
        int[][] wrong = {{0, 1, 1, 1}, {3, 1, 1, 1}, {1, 0, 1, 1}, {1, 5, 1, 1}, {1, 1, -1, 1}, {1, 1, 100, 1}, {1, 1, 1, -1}, {1, 1, 1, 100}};
        for (int[] one : wrong) {
            for (int i = 0; i < 3; i++) {
                int at = i;
                Edge edge = new Edge(check, () -> withOneWrong(at, one));
                edge.refused(-20 - i, "read", 0, 1, 0, 3);
                edge.refused(-20 - i, "read", 0, 1, 0, 10);
                edge.refused(-20 - i, "read", 0, 1, 0, i + 1);
                check.due("those ahead of it alone", edge.taken(i, "read", 0, 1, 0, i).rule(2), i);
            }
        }
        for (int there = 0; there <= 10; there++) {
            String text = "cols auto;" + "item 1 1 0 0;".repeat(there);
            Edge edge = new Edge(check, () -> withTen(text));
            check.due("as many as there is room for", edge.taken(10 - there, "read", 0, 0, 0, 10 - there).rule(2), 10);
            if (there > 0) {
                edge.refused(-20 - (10 - there), "read", 0, 0, 0, 11 - there);
            }
        }
        check.due("no columns", noColumns().read(0, 0, 0, 1), -20);
    }

    private static GridTracks withOneWrong(int i, int[] wrong) {
        int[] cells = items(3);
        System.arraycopy(wrong, 0, cells, 4 * i, 4);
        return withCells(1, cells);
    }

    private static GridTracks withTen(String text) {
        GridTracks x = check.told(text);
        layAll(x, 0, 0, items(10));
        return x;
    }

    private static GridTracks noColumns() {
        GridTracks x = new GridTracks();
        layAll(x, 0, 0, ITEM);
        return x;
    }

    /** Promise 31: "the first met": of a refusal and a fault that which is further ahead. */
    private static void theFirstThatIsMet() {
        GridTracks x = withCells(0, 1, 1, 1, 1, 9, 1, 1);
        check.due("the wrong one is not whole", x.read(0, 0, 0, 2), 1);
        check.due("torn()", x.torn(), 2);
        x = withCells(0, 1, 1, 1, 1, 9, 1, 1, 1);
        check.due("the wrong one is whole", x.read(0, 0, 0, 3), -21);
        check.due("rule(2)", x.rule(2), 0);
        check.due("torn()", x.torn(), 0);
        x = withCells(0, 9, 1, 1, 1, 9, 1);
        check.due("the first is wrong", x.read(0, 0, 0, 2), -20);
        check.due("another lane is met ahead of the cells", x.read(0, 1, 0, 2), 0);
        check.due("torn()", x.torn(), 3);
        check.due("n ahead of all", x.read(0, 1, 0, 11), -1);
        check.due("torn()", x.torn(), 3);
    }

    /** Promise 32: "The FAULT of the latest read() that came to an end; 0." */
    private static void tornOfTheLatestThatCameToAnEnd() {
        GridTracks x = withCells(0, 1, 1, 1, 1, 9, 1, 1, 1);
        check.due("torn() ahead of all", x.torn(), 0);
        int[][] calls = {{1, 0, 0, 1, 1}, {0, 0, 8, 1, 2}, {0, 2, 0, 1, 3}, {0, 0, 0, 1, 0}};
        for (int[] c : calls) {
            x.read(c[0], c[1], c[2], c[3]);
            check.due("torn()", x.torn(), c[4]);
            check.due("BAD: it did not come to an end", x.read(0, 0, 0, 11), -1);
            check.due("torn()", x.torn(), c[4]);
            check.due("refused: it did not come to an end", x.read(0, 0, 0, 2), -21);
            check.due("torn()", x.torn(), c[4]);
            x.lay(0, 8, 1);
            x.lay(3, 0, 1);
            x.sheet(0, 0, -1);
            check.due("the faults of other calls are not told", x.torn(), c[4]);
        }
    }

    /** Promise 33: each from nothing to as many as there may be. */
    private static void counts() {
        GridTracks none = new GridTracks();
        int[] zero = {0, 0, 0, NONE, 0, 0};
        for (int what = 0; what < 6; what++) {
            check.due("count(" + what + ")", none.count(what), zero[what]);
        }
        new Edge(check, GridTracks::new).bounds(0, 5, "count", 0, 0);
        check.due("shares of flex columns alone", check.told("cols fix 99 flex 3 auto flex 4 fix 1;").count(4), 7);
        GridTracks x = check.told("cols repeat 6 flex 9;");
        for (int i = 0; i < 10; i++) {
            x.add(1, 1, 99, 0);
            x.pin(i, i % 3 == 1 ? NONE : i % 6, i % 3 == 2 ? NONE : i);
            check.due("count(1)", x.count(1), i + 1);
        }
        x.keep(0);
        x.keep(1);
        x.sheet(0, 0, 40);
        Check.feed(x, " ".repeat(320));
        int[] most = {2, 10, 320, 40, 54, 990};
        for (int what = 0; what < 6; what++) {
            check.due("count(" + what + ")", x.count(what), most[what]);
        }
        for (int i = 0; i < 10; i++) {
            x.pin(i, NONE, NONE);
            check.due("count(1)", x.count(1), 9 - i);
        }
        x.sheet(0, 0, 0);
        check.due("a sheet of no cells is not nothing", x.count(3), 0);
    }
}
