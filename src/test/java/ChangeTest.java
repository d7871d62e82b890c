/** Promises 17 to 26: changes. */
public final class ChangeTest {
    private static final int NONE = GridTracks.NONE;
    private static final int FAR = Integer.MAX_VALUE;
    private static final int LOW = Integer.MIN_VALUE;
    private static final Check check = new Check("ChangeTest");

    public static void main(String[] args) {
        add();
        drop();
        pin();
        set();
        swap();
        track();
        width();
        gap();
        high();
        scatter();
        scatterNumbers();
        check.end();
    }

    private static void add() {
        GridTracks x = check.told("cols auto auto auto;");
        int[][] wrong = {{0, 1, 1, 1}, {4, 1, 1, 1}, {-1, 1, 1, 1}, {1, 0, 1, 1}, {1, 5, 1, 1}, {1, 1, -1, 1}, {1, 1, 100, 1},
            {1, 1, 1, -1}, {1, 1, 1, 100}, {FAR, 1, 1, 1}, {1, LOW, 1, 1}, {1, 1, FAR, 1}, {1, 1, NONE, NONE}};
        for (int[] w : wrong) {
            check.due("a wrong add()", x.add(w[0], w[1], w[2], w[3]), -1);
        }
        check.due("rule(2)", x.rule(2), 0);
        check.due("add(3, 4, 99, 99)", x.add(3, 4, 99, 99), 1);
        check.item(x, 0, 3, 4, 99, 99, NONE, NONE, 0, 0);
        check.due("add(1, 1, 0, 0)", x.add(1, 1, 0, 0), 2);
        check.item(x, 1, 1, 1, 0, 0, NONE, NONE, 0, 4);
        for (int n = 3; n <= 10; n++) {
            check.due("add(1, 1, 5, 5)", x.add(1, 1, 5, 5), n);
        }
        check.due("add(1, 1, 5, 5) behind 10", x.add(1, 1, 5, 5), -3);
        check.due("add(4, 1, 5, 5) behind 10", x.add(4, 1, 5, 5), -1);
        check.due("rule(2)", x.rule(2), 10);
        check.due("drop(9)", x.drop(9), 9);
        check.due("add(1, 1, 5, 5)", x.add(1, 1, 5, 5), 10);
    }

    private static void drop() {
        GridTracks x = check.told("cols auto auto; item 1 1 10 1 col 1 row 3; item 2 2 20 2; item 1 3 30 3 row 7;");
        check.due("drop(3)", x.drop(3), -1);
        check.due("drop(-1)", x.drop(-1), -1);
        check.due("rule(2)", x.rule(2), 3);
        check.due("drop(1)", x.drop(1), 2);
        check.item(x, 0, 1, 1, 10, 1, 1, 3, 1, 3);
        check.item(x, 1, 1, 3, 30, 3, NONE, 7, 0, 7);
        check.due("item(2, 0)", x.item(2, 0), -1);
        check.due("drop(0)", x.drop(0), 1);
        check.item(x, 0, 1, 3, 30, 3, NONE, 7, 0, 7);
        check.due("drop(0)", x.drop(0), 0);
        check.due("drop(0)", x.drop(0), -1);
        check.due("rule(1)", x.rule(1), 0);
        check.due("add(1, 1, 1, 1)", x.add(1, 1, 1, 1), 1);
        check.item(x, 0, 1, 1, 1, 1, NONE, NONE, 0, 0);
    }

    private static void pin() {
        GridTracks x = check.told("cols repeat 4 auto; item 2 3 1 1; item 1 1 1 1;");
        int[][] wrong = {{2, 0, 0}, {-1, 0, 0}, {0, 3, 0}, {0, -1, 0}, {0, 0, 10}, {0, 0, -1}, {0, -2, NONE}, {0, NONE, -5}, {0, FAR, 0},
            {0, 0, FAR}, {0, LOW, NONE}, {1, 4, 0}, {1, 0, 12}};
        for (int[] w : wrong) {
            check.due("pin(" + w[0] + ", " + w[1] + ", " + w[2] + ")", x.pin(w[0], w[1], w[2]), -1);
        }
        check.item(x, 0, 2, 3, 1, 1, NONE, NONE, 0, 0);
        check.due("pin(0, 2, 9)", x.pin(0, 2, 9), 1);
        check.item(x, 0, 2, 3, 1, 1, 2, 9, 2, 9);
        check.due("count(1)", x.count(1), 1);
        check.due("pin(0, NONE, 9)", x.pin(0, NONE, 9), 1);
        check.item(x, 0, 2, 3, 1, 1, NONE, 9, 0, 9);
        check.due("pin(0, 1, NONE)", x.pin(0, 1, NONE), 1);
        check.item(x, 0, 2, 3, 1, 1, 1, NONE, 1, 0);
        check.due("pin(1, 3, 11)", x.pin(1, 3, 11), 1);
        check.item(x, 1, 1, 1, 1, 1, 3, 11, 3, 11);
        check.due("count(1)", x.count(1), 2);
        check.due("pin(0, NONE, NONE)", x.pin(0, NONE, NONE), 1);
        check.item(x, 0, 2, 3, 1, 1, NONE, NONE, 0, 0);
        check.due("count(1)", x.count(1), 1);
    }

    private static void set() {
        GridTracks x = check.told("cols repeat 4 auto; item 2 3 11 12; item 2 3 13 14 col 1 row 7;");
        int[][] wrong = {{2, 0, 1}, {-1, 0, 1}, {0, 4, 1}, {0, -1, 1}, {0, 0, 0}, {0, 0, 5}, {0, 0, 7}, {0, 1, 0}, {0, 1, 5}, {0, 2, -1},
            {0, 2, 100}, {0, 3, -1}, {0, 3, 100}, {1, 0, 4}, {1, 0, FAR}, {1, 1, LOW}, {0, 5, 0}};
        for (int[] w : wrong) {
            check.due("set(" + w[0] + ", " + w[1] + ", " + w[2] + ")", x.set(w[0], w[1], w[2]), -1);
        }
        check.item(x, 0, 2, 3, 11, 12, NONE, NONE, 0, 0);
        check.item(x, 1, 2, 3, 13, 14, 1, 7, 1, 7);
        check.due("set(0, 0, 4)", x.set(0, 0, 4), 2);
        check.due("set(0, 1, 4)", x.set(0, 1, 4), 3);
        check.due("set(0, 2, 99)", x.set(0, 2, 99), 11);
        check.due("set(0, 3, 0)", x.set(0, 3, 0), 12);
        check.item(x, 0, 4, 4, 99, 0, NONE, NONE, 0, 0);
        check.due("set(1, 0, 3)", x.set(1, 0, 3), 2);
        check.due("set(1, 1, 4)", x.set(1, 1, 4), 3);
        check.due("pin(1, 1, 8)", x.pin(1, 1, 8), 1);
        check.due("set(1, 1, 1)", x.set(1, 1, 1), 4);
        check.due("pin(1, 1, 10)", x.pin(1, 1, 10), 1);
        check.due("set(1, 1, 3)", x.set(1, 1, 3), -1);
        check.due("set(1, 1, 2)", x.set(1, 1, 2), 1);
        check.item(x, 1, 3, 2, 13, 14, 1, 10, 1, 10);
    }

    private static void swap() {
        GridTracks x = check.told("cols auto auto; item 1 1 10 1; item 2 2 20 2; item 1 3 30 3 col 1 row 7;");
        int[][] wrong = {{0, 3}, {3, 0}, {-1, 0}, {0, -1}, {FAR, LOW}};
        for (int[] w : wrong) {
            check.due("swap(" + w[0] + ", " + w[1] + ")", x.swap(w[0], w[1]), -1);
        }
        check.item(x, 0, 1, 1, 10, 1, NONE, NONE, 0, 0);
        check.item(x, 1, 2, 2, 20, 2, NONE, NONE, 0, 1);
        check.due("swap(0, 1)", x.swap(0, 1), 1);
        check.item(x, 0, 2, 2, 20, 2, NONE, NONE, 0, 0);
        check.item(x, 1, 1, 1, 10, 1, NONE, NONE, 0, 2);
        check.due("swap(2, 2)", x.swap(2, 2), 1);
        check.item(x, 2, 1, 3, 30, 3, 1, 7, 1, 7);
        check.due("swap(2, 0)", x.swap(2, 0), 1);
        check.item(x, 0, 1, 3, 30, 3, 1, 7, 1, 7);
        check.item(x, 2, 2, 2, 20, 2, NONE, NONE, 0, 1);
    }

    private static void track() {
        GridTracks x = check.told("cols fix 7 auto flex 2; width 50; item 1 1 9 1 col 0;");
        int[][] wrong = {{3, 1, 0}, {-1, 1, 0}, {0, 3, 1}, {0, -1, 1}, {0, 0, -1}, {0, 0, 100}, {0, 1, 1}, {0, 1, NONE}, {0, 2, 0}, {0, 2, 10}};
        for (int[] w : wrong) {
            check.due("track(" + w[0] + ", " + w[1] + ", " + w[2] + ")", x.track(w[0], w[1], w[2]), -1);
        }
        check.columns(x, 1, 7, NONE, 2);
        check.columns(x, 2, 7, 0, 43);
        check.due("track(0, 1, 0)", x.track(0, 1, 0), 0);
        check.columns(x, 2, 9, 0, 41);
        check.due("track(1, 2, 9)", x.track(1, 2, 9), 1);
        check.columns(x, 1, NONE, 9, 2);
        check.columns(x, 2, 9, 34, 7);
        check.due("track(2, 0, 99)", x.track(2, 0, 99), 2);
        check.columns(x, 0, 1, 2, 0);
        check.columns(x, 2, 9, 0, 99);
        check.due("track(1, 2, 1)", x.track(1, 2, 1), 2);
        check.due("track(2, 0, 0)", x.track(2, 0, 0), 0);
        check.columns(x, 2, 9, 41, 0);
    }

    private static void width() {
        GridTracks x = check.told("cols flex 1;");
        check.due("width(100)", x.width(100), NONE);
        check.due("column(0, 2)", x.column(0, 2), 100);
        int[] wrong = {-1, -2, -3, -5, 1000, FAR, LOW};
        for (int w : wrong) {
            check.due("width(" + w + ")", x.width(w), -1);
        }
        check.due("rule(4)", x.rule(4), 100);
        check.due("width(0)", x.width(0), 100);
        check.due("column(0, 2)", x.column(0, 2), 0);
        check.due("width(999)", x.width(999), 0);
        check.due("width(NONE)", x.width(NONE), 999);
        check.due("rule(4)", x.rule(4), NONE);
        check.due("column(0, 2)", x.column(0, 2), 0);
        check.due("width(NONE)", x.width(NONE), NONE);
    }

    private static void gap() {
        GridTracks x = check.told("cols fix 1 fix 1; item 1 2 0 0;");
        int[][] wrong = {{-1, 0}, {21, 0}, {0, -1}, {0, 21}, {NONE, NONE}, {FAR, 0}, {0, LOW}};
        for (int[] w : wrong) {
            check.due("gap(" + w[0] + ", " + w[1] + ")", x.gap(w[0], w[1]), -1);
        }
        check.due("gap(20, 3)", x.gap(20, 3), 0);
        check.due("total(0)", x.total(0), 22);
        check.due("total(1)", x.total(1), 3);
        check.due("gap(0, 20)", x.gap(0, 20), 2003);
        check.due("total(0)", x.total(0), 2);
        check.due("total(1)", x.total(1), 20);
        check.due("gap(0, 0)", x.gap(0, 0), 20);
    }

    private static void high() {
        GridTracks x = check.told("cols auto; item 1 1 0 9; item 1 1 0 2;");
        int[] wrong = {-1, 100, NONE, FAR, LOW};
        for (int v : wrong) {
            check.due("high(" + v + ")", x.high(v), -1);
        }
        check.due("high(5)", x.high(5), 0);
        check.rows(x, 0, 9, 5);
        check.due("rule(7)", x.rule(7), 5);
        check.due("high(99)", x.high(99), 5);
        check.rows(x, 0, 99, 99);
        check.due("high(0)", x.high(0), 99);
        check.rows(x, 0, 9, 2);
    }

    private static void scatter() {
        GridTracks x = new GridTracks();
        check.due("scatter(1, 0)", x.scatter(1, 0), -1);
        check.due("scatter(1, 11)", x.scatter(1, 11), -1);
        check.due("scatter(1, -1)", x.scatter(1, -1), -1);
        check.due("scatter(1, 1)", x.scatter(1, 1), -2);
        x = check.told("cols auto auto;");
        check.due("scatter(1, 0)", x.scatter(1, 0), -1);
        check.due("scatter(1, 10)", x.scatter(1, 10), 10);
        check.due("scatter(1, 1)", x.scatter(1, 1), 0);
        check.due("scatter(1, 11)", x.scatter(1, 11), -1);
        check.due("drop(0)", x.drop(0), 9);
        check.due("drop(0)", x.drop(0), 8);
        check.due("scatter(1, 3)", x.scatter(1, 3), 2);
        check.due("rule(2)", x.rule(2), 10);
    }

    private static void scatterNumbers() {
        GridTracks x = check.told("cols auto auto; item 1 1 1 1 col 0;");
        check.due("scatter(7, 4)", x.scatter(7, 4), 4);
        check.item(x, 0, 1, 1, 1, 1, 0, NONE);
        check.item(x, 1, 1, 1, 11, 9, NONE, NONE);
        check.item(x, 2, 1, 2, 6, 4, NONE, NONE);
        check.item(x, 3, 1, 3, 39, 5, NONE, NONE);
        check.item(x, 4, 1, 3, 8, 11, NONE, NONE);
        x = check.told("cols repeat 6 auto;");
        check.due("scatter(1, 3)", x.scatter(1, 3), 3);
        check.item(x, 0, 3, 2, 26, 8, NONE, NONE, 0, 0);
        check.item(x, 1, 5, 3, 29, 2, NONE, NONE, 0, 2);
        check.item(x, 2, 4, 2, 16, 4, NONE, NONE, 0, 5);
        x = check.told("cols repeat 5 auto;");
        check.due("scatter(-5, 2)", x.scatter(-5, 2), 2);
        check.item(x, 0, 3, 1, 41, 6);
        check.item(x, 1, 2, 1, 3, 0);
        x = check.told("cols auto auto auto;");
        check.due("scatter(max, 2)", x.scatter(FAR, 2), 2);
        check.item(x, 0, 3, 3, 47, 7);
        check.item(x, 1, 3, 3, 37, 2);
    }
}
