/** Promises 7, 8, 12, 13 and 14: sizes and starts of columns and rows, box, over, total. */
public final class SizeTest {
    private static final Check check = new Check("SizeTest");

    public static void main(String[] args) {
        autoColumns();
        autoColumnsAllOfOneWideAtOnce();
        autoColumnsBesideOthers();
        sharesByNeed();
        sharesOfAWidth();
        sharesFrozen();
        rows();
        startsAndTotals();
        boxes();
        lostItemsNeedNothing();
        check.end();
    }

    private static void autoColumns() {
        check.columns(check.told("cols auto auto;"), 2, 0, 0);
        check.columns(check.told("cols auto auto; item 1 1 10 0 col 1; item 1 1 7 0 col 1; item 1 1 12 0 col 1;"), 2, 0, 12);
        check.columns(check.told("cols auto auto; gap 3 0; item 2 1 40 0; item 1 1 10 0 col 0;"), 2, 24, 13);
        check.columns(check.told("cols auto auto auto; gap 1 0; item 3 1 13 0;"), 2, 4, 4, 3);
        check.columns(check.told("cols auto auto auto; item 3 1 30 0; item 2 1 9 0 col 1; item 1 1 4 0 col 0;"), 2, 10, 11, 9);
        check.columns(check.told("cols auto auto; gap 5 0; item 2 1 15 0; item 1 1 10 0 col 0;"), 2, 10, 0);
        check.columns(check.told("cols auto auto; gap 5 0; item 2 1 16 0; item 1 1 10 0 col 0;"), 2, 11, 0);
        check.columns(check.told("cols repeat 6 auto; item 6 1 99 0; item 5 1 5 0 col 0; item 4 1 4 0;"), 2, 18, 17, 17, 17, 15, 15);
    }

    private static void autoColumnsAllOfOneWideAtOnce() {
        check.columns(check.told("cols auto auto auto; item 2 1 10 0 col 0; item 2 1 10 0 col 1;"), 2, 5, 5, 5);
        check.columns(check.told("cols auto auto auto; item 2 1 10 0 col 0; item 2 1 7 0 col 1;"), 2, 5, 5, 3);
        check.columns(check.told("cols auto auto auto; item 2 1 7 0 col 1; item 2 1 10 0 col 0;"), 2, 5, 5, 3);
        check.columns(check.told("cols auto auto auto; item 2 1 2 0 col 0; item 2 1 9 0 col 1; item 2 1 5 0 col 1;"), 2, 1, 5, 4);
    }

    private static void autoColumnsBesideOthers() {
        check.columns(check.told("cols fix 4 auto; item 2 1 20 0;"), 2, 4, 16);
        check.columns(check.told("cols auto fix 4 auto; item 3 1 21 0;"), 2, 9, 4, 8);
        check.columns(check.told("cols fix 4 fix 3; item 2 1 20 0; item 1 1 9 0;"), 2, 4, 3);
        check.columns(check.told("cols auto flex 1; item 2 1 20 0;"), 2, 0, 20);
        check.columns(check.told("cols auto flex 1 auto; item 3 1 20 0; item 2 1 6 0 col 0; item 1 1 3 0 col 2;"), 2, 0, 17, 3);
        check.columns(check.told("cols auto auto flex 1; item 2 1 7 0;"), 2, 4, 3, 0);
    }

    private static void sharesByNeed() {
        check.columns(check.told("cols flex 1 flex 9;"), 2, 0, 0);
        check.columns(check.told("cols flex 1 flex 9; item 1 1 1 0;"), 2, 1, 9);
        check.columns(check.told("cols flex 2 fix 5 flex 1; gap 1 0; item 3 1 20 0;"), 2, 10, 5, 5);
        check.columns(check.told("cols flex 2 fix 5 flex 1; gap 1 0; item 3 1 22 0;"), 2, 10, 5, 5);
        check.columns(check.told("cols flex 2 fix 5 flex 1; gap 1 0; item 3 1 23 0;"), 2, 12, 5, 6);
        check.columns(check.told("cols flex 2 flex 3; item 1 1 9 0 col 0; item 1 1 12 0 col 1;"), 2, 10, 15);
        check.columns(check.told("cols flex 2 fix 50; item 2 1 40 0;"), 2, 0, 50);
        check.columns(check.told("cols flex 2 auto; gap 2 0; item 1 1 8 0 col 1; item 2 1 15 0;"), 2, 6, 8);
        check.columns(check.told("cols flex 1 fix 2; item 1 1 90 0 col 1;"), 2, 0, 2);
    }

    private static void sharesOfAWidth() {
        check.columns(check.told("cols flex 1 flex 1 flex 1; width 11;"), 2, 4, 4, 3);
        check.columns(check.told("cols flex 2 flex 1 flex 1; width 10;"), 2, 6, 2, 2);
        check.columns(check.told("cols flex 1 fix 3 flex 2; gap 2 0; width 20;"), 2, 5, 3, 8);
        check.columns(check.told("cols auto flex 1 flex 2; width 20; item 1 1 7 0 col 0;"), 2, 7, 5, 8);
        check.columns(check.told("cols fix 5 auto; width 100; item 2 1 9 0;"), 2, 5, 4);
        check.columns(check.told("cols flex 1 flex 1; gap 20 0; width 20;"), 2, 0, 0);
        check.columns(check.told("cols flex 1 flex 1; gap 20 0; width 21;"), 2, 1, 0);
        check.columns(check.told("cols flex 1 fix 50; width 20;"), 2, 0, 50);
        check.columns(check.told("cols flex 9; width 999;"), 2, 999);
        check.columns(check.told("cols flex 1 flex 1; width 0; item 2 1 9 0;"), 2, 0, 0);
    }

    private static void sharesFrozen() {
        String three = "cols flex 1 flex 1 flex 1; ";
        check.columns(check.told(three + "width 30; item 1 1 15 0 col 0; item 1 1 8 0 col 1;"), 2, 15, 8, 7);
        check.columns(check.told(three + "width 30; item 1 1 10 0 col 0; item 1 1 10 0 col 1;"), 2, 10, 10, 10);
        check.columns(check.told(three + "width 20; item 1 1 9 0 col 0;"), 2, 9, 6, 5);
        check.columns(check.told(three + "width 20; item 1 1 9 0 col 1; item 1 1 7 0 col 1;"), 2, 6, 9, 5);
        check.columns(check.told(three + "width 20; item 1 1 30 0 col 1;"), 2, 0, 30, 0);
        check.columns(check.told(three + "width 20; item 1 1 30 0 col 1; item 1 1 1 0 col 2;"), 2, 0, 30, 1);
        check.columns(check.told(three + "width 20; item 2 1 30 0 col 0;"), 2, 7, 7, 6);
        check.columns(check.told("cols flex 3 flex 1; width 20; item 1 1 6 0 col 1;"), 2, 14, 6);
        check.columns(check.told("cols flex 3 flex 1; width 20; item 1 1 5 0 col 1; item 1 1 15 0 col 0;"), 2, 15, 5);
        check.columns(check.told("cols flex 3 flex 1; width 19; item 1 1 5 0 col 1; item 1 1 15 0 col 0;"), 2, 15, 5);
        check.columns(check.told("cols flex 2 fix 5 flex 1; width 20; item 1 1 30 0 col 0;"), 2, 30, 5, 0);
        check.columns(check.told("cols flex 1 fix 1 flex 1; width 21; item 1 1 30 0 col 1; item 1 1 1 0 col 0;"), 2, 10, 1, 10);
    }

    private static void rows() {
        check.rows(check.told("cols auto; high 3; gap 0 2; item 1 2 0 9;"), 0, 4, 3);
        check.rows(check.told("cols auto; high 3; gap 0 2; item 1 2 0 8;"), 0, 3, 3);
        check.rows(check.told("cols auto; high 3; item 1 1 0 2 col 0 row 2; item 1 1 0 5 col 0 row 0;"), 0, 5, 3, 3);
        check.rows(check.told("cols auto auto; item 1 1 0 6 col 0 row 0; item 1 2 0 11 col 1 row 0;"), 0, 9, 2);
        check.rows(check.told("cols repeat 4 auto; item 1 4 0 30 row 0; item 1 3 0 12 row 1; item 1 2 0 5 row 0; item 1 1 0 2 row 3;"), 0, 7, 9, 7, 7);
        check.rows(check.told("cols auto auto; item 1 2 0 10 col 0 row 0; item 1 2 0 10 col 1 row 1;"), 0, 5, 5, 5);
        check.rows(check.told("cols flex 1; width 5; high 99; item 1 1 0 99;"), 0, 99);
    }

    private static void startsAndTotals() {
        GridTracks x = check.told("cols fix 4 auto flex 1; gap 3 2; width 30; high 1; item 1 1 5 4 col 1; item 1 2 0 9 col 2;");
        check.columns(x, 2, 4, 5, 15);
        check.columns(x, 3, 0, 7, 15);
        check.rows(x, 0, 5, 2);
        check.rows(x, 1, 0, 7);
        check.due("total(0)", x.total(0), 30);
        check.due("total(1)", x.total(1), 9);
        check.due("total(2)", x.total(2), -1);
        check.due("total(-1)", x.total(-1), -1);
        GridTracks none = check.told("gap 5 6;");
        check.due("total(0)", none.total(0), 0);
        check.due("total(1)", none.total(1), 0);
        GridTracks one = check.told("cols fix 9; gap 5 6; item 1 1 0 4;");
        check.due("total(0)", one.total(0), 9);
        check.due("total(1)", one.total(1), 4);
    }

    private static void boxes() {
        GridTracks x = check.told("cols fix 4 fix 5 fix 6; gap 3 2; high 7; item 2 2 20 30 col 1 row 1; item 1 1 4 8 col 0 row 0; item 3 1 1 1 col 0 row 0;");
        int[] first = {7, 10, 14, 30};
        int[] second = {0, 0, 4, 8};
        for (int what = 0; what < 4; what++) {
            check.due("box(0, " + what + ")", x.box(0, what), first[what]);
            check.due("box(1, " + what + ")", x.box(1, what), second[what]);
            check.due("box(2, " + what + ")", x.box(2, what), -2);
        }
        check.due("over(0, 0)", x.over(0, 0), 6);
        check.due("over(0, 1)", x.over(0, 1), 0);
        check.due("over(1, 0)", x.over(1, 0), 0);
        check.due("over(1, 1)", x.over(1, 1), 0);
        check.due("over(2, 0)", x.over(2, 0), -2);
        check.due("over(2, 1)", x.over(2, 1), -2);
        int[][] wrong = {{3, 0}, {-1, 0}, {0, 4}, {0, -1}, {2, 4}};
        for (int[] w : wrong) {
            check.due("box(" + w[0] + ", " + w[1] + ")", x.box(w[0], w[1]), -1);
            check.due("over(" + w[0] + ", " + w[1] + ")", x.over(w[0], w[1]), -1);
        }
        check.due("over(0, 2)", x.over(0, 2), -1);
    }

    private static void lostItemsNeedNothing() {
        String pinned = "item 1 1 3 4 col 0 row 0; item 1 2 90 90 col 0 row 0;";
        GridTracks x = check.told("cols auto auto; " + pinned);
        check.columns(x, 2, 3, 0);
        check.rows(x, 0, 4);
        check.columns(check.told("cols flex 2 flex 1; " + pinned), 2, 4, 2);
        check.columns(check.told("cols flex 2 flex 1; width 9; " + pinned), 2, 6, 3);
    }
}
