/** Promises 17 to 26: add, drop, pin, set, swap, track, width, gap, high, scatter; what each answers at its bounds. */
public final class EdgeChangesTest {
    private static final int NONE = GridTracks.NONE;
    private static final int FAR = Integer.MAX_VALUE;
    private static final int LOW = Integer.MIN_VALUE;
    private static final Check check = new Check("EdgeChangesTest");

    public static void main(String[] args) {
        addWithoutPins();
        addTillFull();
        addOfWhatWouldBeLost();
        dropNumbersOneLess();
        dropTheOnlyOne();
        pinOfThisItemAlone();
        setAnswersWhatItWas();
        setInTheGridByPins();
        setOfALostItem();
        swapWithItself();
        swapTheFirstAndTheLast();
        trackAnswersTheKindItWas();
        trackLeavesTheOthers();
        widthAnswersWhatItWas();
        gapAnswersBoth();
        highAnswersWhatItWas();
        scatterTimes();
        scatterWhileThereIsRoom();
        scatterByTheSeed();
        scatterWithoutColumns();
        check.end();
    }

    /** Promise 17: "An ITEM more without PINS: how many there are." */
    private static void addWithoutPins() {
        GridTracks x = check.told("cols auto auto;item 1 1 7 7 col 1 row 5;");
        x.drop(0);
        check.due("add()", x.add(2, 4, 99, 98), 1);
        check.item(x, 0, 2, 4, 99, 98, NONE, NONE, 0, 0);
        check.due("count(1)", x.count(1), 0);
        check.due("add()", x.add(1, 1, 0, 0), 2);
        check.item(x, 1, 1, 1, 0, 0, NONE, NONE, 0, 4);
    }

    /** Promise 17: "FULL", but BAD ahead of it. */
    private static void addTillFull() {
        GridTracks x = check.told("cols auto auto;");
        for (int n = 1; n <= 10; n++) {
            check.due("add()", x.add(1, 1, n, n), n);
        }
        check.due("add() behind 10", x.add(1, 1, 1, 1), -3);
        check.due("a wrong add() behind 10", x.add(0, 1, 1, 1), -1);
        check.due("a wrong add() behind 10", x.add(1, 1, 1, 100), -1);
        check.item(x, 9, 1, 1, 10, 10, NONE, NONE, 1, 4);
        check.due("drop()", x.drop(0), 9);
        check.due("add()", x.add(1, 1, 1, 1), 10);
        check.due("add() behind 10", x.add(1, 1, 1, 1), -3);
    }

    /** An item that finds no room comes all the same: it is LOST, not FULL. */
    private static void addOfWhatWouldBeLost() {
        GridTracks x = check.told("cols auto;item 1 4 0 0;item 1 4 0 0;item 1 4 0 0;");
        check.due("add()", x.add(1, 1, 5, 5), 4);
        check.place(x, 3, NONE, NONE);
        check.due("rule(3)", x.rule(3), 1);
    }

    /** Promise 18: "An ITEM goes, those behind it are numbered one less": the first, one between, the last. */
    private static void dropNumbersOneLess() {
        for (int gone = 0; gone < 10; gone++) {
            GridTracks x = check.told("cols auto auto;");
            for (int i = 0; i < 10; i++) {
                x.add(1 + i % 2, 1 + i % 4, 10 + i, 20 + i);
                x.pin(i, i % 3 == 0 ? 0 : NONE, i % 2 == 0 ? i % 9 : NONE);
            }
            check.due("drop(" + gone + ")", x.drop(gone), 9);
            for (int i = 0; i < 9; i++) {
                int was = i < gone ? i : i + 1;
                check.item(x, i, 1 + was % 2, 1 + was % 4, 10 + was, 20 + was, was % 3 == 0 ? 0 : NONE, was % 2 == 0 ? was % 9 : NONE);
            }
            check.due("item(9, 0)", x.item(9, 0), -1);
        }
    }

    private static void dropTheOnlyOne() {
        Edge one = new Edge(check, "cols auto;item 1 1 1 1;");
        one.bounds(0, 0, "drop", 0, 0);
        GridTracks x = one.taken(0, "drop", 0);
        check.due("rule(1)", x.rule(1), 0);
        check.due("count(5)", x.count(5), 0);
        new Edge(check, "cols auto;").refused(-1, "drop", 0);
    }

    /** Promise 19: "PINS of an ITEM become c, r (NONE: none): 1." */
    private static void pinOfThisItemAlone() {
        GridTracks x = check.told("cols auto auto;item 1 1 1 1;item 1 1 1 1 col 0 row 3;item 1 1 1 1;");
        check.due("pin(2, 1, 11)", x.pin(2, 1, 11), 1);
        check.item(x, 0, 1, 1, 1, 1, NONE, NONE, 0, 0);
        check.item(x, 1, 1, 1, 1, 1, 0, 3, 0, 3);
        check.item(x, 2, 1, 1, 1, 1, 1, 11, 1, 11);
        check.due("pin upon another", x.pin(2, 0, 3), 1);
        check.item(x, 2, 1, 1, 1, 1, 0, 3, NONE, NONE);
        check.due("pin as it was", x.pin(2, 0, 3), 1);
        new Edge(check, "cols auto;").refused(-1, "pin", 0, NONE, NONE);
        new Edge(check, "cols auto;item 1 1 1 1;").bounds(0, 0, "pin", 0, 0, NONE, NONE);
    }

    /** Promise 20: ".. become v: what it was". */
    private static void setAnswersWhatItWas() {
        GridTracks x = check.told("cols auto auto auto;item 1 2 3 4;item 1 1 9 9;");
        int[] was = {1, 2, 3, 4};
        int[] becomes = {3, 4, 99, 0};
        for (int what = 0; what < 4; what++) {
            check.due("set(0, " + what + ")", x.set(0, what, becomes[what]), was[what]);
            check.due("set(0, " + what + ") again", x.set(0, what, becomes[what]), becomes[what]);
        }
        check.item(x, 0, 3, 4, 99, 0, NONE, NONE, 0, 0);
        check.item(x, 1, 1, 1, 9, 9, NONE, NONE, 0, 4);
        Edge edge = new Edge(check, "cols auto auto auto;item 1 2 3 4;item 1 1 9 9;");
        edge.bounds(0, 1, "set", 0, 0, 0, 1);
        edge.bounds(0, 3, "set", 1, 0, 0, 1);
    }

    /** Promise 20: "BAD: also if it is not all in the grid then by its PINS." */
    private static void setInTheGridByPins() {
        for (int c = 0; c < 4; c++) {
            Edge pinned = new Edge(check, "cols repeat 4 auto;item 1 1 1 1 col " + c + ";");
            pinned.bounds(1, 4 - c, "set", 2, 0, 0, 1);
            pinned.bounds(1, 4, "set", 2, 0, 1, 1);
        }
        for (int r = 8; r < 12; r++) {
            Edge pinned = new Edge(check, "cols repeat 4 auto;item 1 1 1 1 row " + r + ";");
            pinned.bounds(1, 12 - r, "set", 2, 0, 1, 1);
            pinned.bounds(1, 4, "set", 2, 0, 0, 1);
        }
        new Edge(check, "cols repeat 4 auto;item 1 1 1 1 row 7;").bounds(1, 4, "set", 2, 0, 1, 1);
    }

    /** A lost item is set like any other; it may find a place then. */
    private static void setOfALostItem() {
        GridTracks x = check.told("cols auto auto;item 1 1 1 1 col 0 row 0;item 2 1 1 1 row 0;");
        check.place(x, 1, NONE, NONE);
        check.due("set(1, 0, 1)", x.set(1, 0, 1), 2);
        check.place(x, 1, 1, 0);
    }

    /** Promise 21: "(i may be j): 1". */
    private static void swapWithItself() {
        Edge edge = new Edge(check, "cols auto auto;item 1 1 1 1;item 2 2 2 2 col 0 row 4;");
        edge.refused(1, "swap", 0, 0);
        edge.refused(1, "swap", 1, 1);
        edge.refused(-1, "swap", 2, 2);
        edge.refused(-1, "swap", -1, -1);
        new Edge(check, "cols auto;").refused(-1, "swap", 0, 0);
    }

    /** Promise 21: "Two ITEMS change their places in the order": all of them, in either order. */
    private static void swapTheFirstAndTheLast() {
        for (int first = 0; first < 2; first++) {
            GridTracks x = check.told("cols auto auto;item 1 1 1 1;item 1 3 5 5;item 2 2 2 2 col 0 row 4;");
            check.due("swap()", first == 0 ? x.swap(0, 2) : x.swap(2, 0), 1);
            check.item(x, 0, 2, 2, 2, 2, 0, 4, 0, 4);
            check.item(x, 1, 1, 3, 5, 5, NONE, NONE, 0, 0);
            check.item(x, 2, 1, 1, 1, 1, NONE, NONE, 1, 0);
        }
    }

    /** Promise 22: "A COLUMN becomes of a KIND, with a NUMBER (0 for auto): what KIND it was." */
    private static void trackAnswersTheKindItWas() {
        int[] least = {0, 0, 1};
        int[] most = {99, 0, 9};
        for (int was = 0; was < 3; was++) {
            String text = new String[] {"cols fix 5;", "cols auto;", "cols flex 5;"}[was];
            Edge edge = new Edge(check, text);
            for (int kind = 0; kind < 3; kind++) {
                check.columns(edge.taken(was, "track", 0, kind, least[kind]), 0, kind);
                check.columns(edge.taken(was, "track", 0, kind, most[kind]), 1, kind == 1 ? NONE : most[kind]);
                edge.bounds(least[kind], most[kind], "track", 2, 0, kind, 0);
            }
            edge.bounds(0, 0, "track", 0, 0, 1, 0);
            for (int n : new int[] {-4, 0, 1, 9, 99}) {
                edge.refused(-1, "track", 0, -1, n);
                edge.refused(-1, "track", 0, 3, n);
            }
        }
        new Edge(check, GridTracks::new).refused(-1, "track", 0, 1, 0);
    }

    private static void trackLeavesTheOthers() {
        GridTracks x = check.told("cols fix 5 auto flex 6;");
        check.due("track(0, 2, 9)", x.track(0, 2, 9), 0);
        check.due("track(2, 0, 0)", x.track(2, 0, 0), 2);
        check.columns(x, 0, 2, 1, 0);
        check.columns(x, 1, 9, NONE, 0);
        check.due("count(4)", x.count(4), 9);
        check.due("track(0, 1, 0)", x.track(0, 1, 0), 2);
        check.due("count(4)", x.count(4), 0);
    }

    /** Promise 23: "WIDTH becomes w (NONE: none): what it was (NONE)." */
    private static void widthAnswersWhatItWas() {
        GridTracks x = new GridTracks();
        int[] widths = {NONE, 0, 999, 1, NONE, NONE};
        int was = NONE;
        for (int w : widths) {
            check.due("width(" + w + ")", x.width(w), was);
            check.due("rule(4)", x.rule(4), w);
            was = w;
        }
        new Edge(check, GridTracks::new).bounds(0, 999, "width", 0, 0);
    }

    /** Promise 24: "GAPS become x, y: 100 times what they were between COLUMNS, and between ROWS." */
    private static void gapAnswersBoth() {
        GridTracks x = new GridTracks();
        int[][] gaps = {{0, 20}, {20, 0}, {20, 20}, {1, 2}, {0, 0}};
        int was = 0;
        for (int[] g : gaps) {
            check.due("gap()", x.gap(g[0], g[1]), was);
            check.due("rule(5)", x.rule(5), g[0]);
            check.due("rule(6)", x.rule(6), g[1]);
            was = 100 * g[0] + g[1];
        }
    }

    /** Promise 25: "HIGH becomes v: what it was." */
    private static void highAnswersWhatItWas() {
        GridTracks x = new GridTracks();
        int was = 0;
        for (int v : new int[] {99, 0, 1, 99, 98}) {
            check.due("high(" + v + ")", x.high(v), was);
            check.due("rule(7)", x.rule(7), v);
            was = v;
        }
    }

    /** Promise 26: "n times (1 to 10)". */
    private static void scatterTimes() {
        Edge edge = new Edge(check, "cols auto auto;");
        edge.bounds(1, 10, "scatter", 1, 3, 1);
        for (int n = 1; n <= 10; n++) {
            check.due("rule(2)", edge.taken(n, "scatter", 3, n).rule(2), n);
        }
    }

    /** Promise 26: "as long as there is room ..: how many came". */
    private static void scatterWhileThereIsRoom() {
        for (int there = 0; there <= 10; there++) {
            Edge edge = new Edge(check, "cols auto auto;" + "item 1 1 0 0;".repeat(there));
            check.due("rule(2)", edge.taken(10 - there, "scatter", 3, 10).rule(2), 10);
            check.due("rule(2)", edge.taken(Math.min(10 - there, 4), "scatter", 3, 4).rule(2), Math.min(there + 4, 10));
        }
    }

    /** Promise 26: "the seed becomes seed times 1103515245 and 12345; bits 16 to 30 of it are got", wrapping around. */
    private static void scatterByTheSeed() {
        for (int seed : new int[] {0, 1, -1, 12345, 65536, 1 << 30, FAR, LOW, LOW + 1}) {
            for (int columns = 1; columns <= 6; columns++) {
                scattered(seed, columns);
            }
        }
        // so many that each divisor meets a number that its neighbours would divide in another way
        for (int k = 0; k < 300; k++) {
            scattered(7919 * k, 1 + k % 6);
        }
    }

    private static void scattered(int seed, int columns) {
        GridTracks x = check.told("cols repeat " + columns + " auto;");
        check.due("scatter()", x.scatter(seed, 10), 10);
        long now = seed;
        for (int i = 0; i < 10; i++) {
            now = Math.floorMod(now * 1103515245L + 12345L, 1L << 32);
            int got = (int) ((now >> 16) % 32768);
            check.item(x, i, got % columns + 1, got / 8 % 3 + 1, got / 32 % 50, got / 2048 % 15, NONE, NONE);
        }
    }

    /** Promise 26: "BAD; STATE: there are no COLUMNS." */
    private static void scatterWithoutColumns() {
        Edge none = new Edge(check, GridTracks::new);
        none.refused(-2, "scatter", 0, 1);
        none.refused(-2, "scatter", FAR, 10);
        none.refused(-1, "scatter", 0, 0);
        none.refused(-1, "scatter", 0, 11);
        none.refused(-1, "scatter", 0, LOW);
        none.refused(-1, "scatter", 0, FAR);
    }
}
