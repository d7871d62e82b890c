/** Terms, 2, sizes, shares, what is frozen, boxes; promises 7, 8, 12, 13 and 14. */
public final class EdgeSizesTest {
    private static final int NONE = GridTracks.NONE;
    private static final Check check = new Check("EdgeSizesTest");

    public static void main(String[] args) {
        autoIs0AtFirst();
        aNeedAboveWhatThereIs();
        dealtEvenlyOneMoreToTheFirst();
        dealtToAutoAlone();
        noneOfItsColumnsFlex();
        ofOneColumnThenOfTwoToSix();
        byTheMostOfAnyAllAtOnce();
        onlyPlacedItems();
        aShareIs0AtLeast();
        aShareIsCutUp();
        aShareByTheGreatestNeed();
        leftIs0AtLeast();
        partsAreCutDownAndTheRestIsDealt();
        frozenWhereLeastIsMoreThanThePart();
        leastIs0WithoutItems();
        frozenAllOfARoundAtOnce();
        frozenRoundByRound();
        nothingOfWhatThereWas();
        leftLessWhatIsFrozenIs0AtLeast();
        allFrozenOrNoneFlex();
        rowsAsAutoColumns();
        startsAndGaps();
        boxesWithTheGapsWithin();
        overOr0();
        totals();
        asLargeAsMayBe();
        wrongNumbers();
        check.end();
    }

    private static void columns(String text, int... sizes) {
        check.columns(check.told(text), 2, sizes);
    }

    /** "SIZES of COLUMNS: fix its NUMBER, auto, flex 0." */
    private static void autoIs0AtFirst() {
        columns("cols fix 9 auto flex 1;", 9, 0, 0);
        columns("cols fix 0 auto flex 9;", 0, 0, 0);
        columns("cols fix 99 auto;width 999;", 99, 0);
    }

    /** "what it NEEDS less the GAPS and SIZES within it, if that is above 0". */
    private static void aNeedAboveWhatThereIs() {
        columns("cols auto;item 1 1 0 0;", 0);
        columns("cols auto;item 1 1 1 0;", 1);
        columns("cols auto;item 1 1 99 0;", 99);
        columns("cols fix 10 auto;gap 5 0;item 2 1 14 0;", 10, 0);
        columns("cols fix 10 auto;gap 5 0;item 2 1 15 0;", 10, 0);
        columns("cols fix 10 auto;gap 5 0;item 2 1 16 0;", 10, 1);
        columns("cols auto auto;gap 20 0;item 2 1 20 0;", 0, 0);
        columns("cols auto auto;gap 20 0;item 2 1 21 0;", 1, 0);
    }

    /** "is dealt to its auto COLUMNS evenly, one more each to the first ones as far as it is not even". */
    private static void dealtEvenlyOneMoreToTheFirst() {
        columns("cols auto auto auto;item 3 1 2 0;", 1, 1, 0);
        columns("cols auto auto auto;item 3 1 3 0;", 1, 1, 1);
        columns("cols auto auto auto;item 3 1 4 0;", 2, 1, 1);
        columns("cols repeat 6 auto;item 6 1 95 0;", 16, 16, 16, 16, 16, 15);
        columns("cols repeat 6 auto;item 6 1 96 0;", 16, 16, 16, 16, 16, 16);
        columns("cols repeat 6 auto;item 6 1 97 0;", 17, 16, 16, 16, 16, 16);
    }

    /** ".. to its auto COLUMNS": fix ones within it and all outside of it stay. */
    private static void dealtToAutoAlone() {
        columns("cols auto fix 2 auto fix 3 auto;item 5 1 10 0;", 2, 2, 2, 3, 1);
        columns("cols auto auto auto auto;item 2 1 9 0 col 1;", 0, 5, 4, 0);
        columns("cols fix 2 fix 3;item 2 1 99 0;", 2, 3);
        columns("cols fix 2 auto;item 1 1 99 0 col 0;", 2, 0);
    }

    /** "none of its COLUMNS flex, some auto". */
    private static void noneOfItsColumnsFlex() {
        columns("cols auto flex 1;width 5;item 2 1 50 0;", 0, 5);
        columns("cols flex 1 auto auto;width 5;item 3 1 50 0;", 5, 0, 0);
        columns("cols flex 1 auto auto;width 60;item 2 1 50 0 col 1;", 10, 25, 25);
        columns("cols auto auto flex 1;item 3 1 50 0;", 0, 0, 50);
    }

    /** "for WIDE 1, 2, .. 6": a wider one sees what narrower ones have dealt, whatever the order of items. */
    private static void ofOneColumnThenOfTwoToSix() {
        columns("cols auto auto;item 2 1 10 0;item 1 1 8 0 col 0;", 9, 1);
        columns("cols auto auto;item 1 1 8 0 col 0;item 2 1 10 0;", 9, 1);
        columns("cols auto auto;item 2 1 10 0;item 1 1 10 0 col 0;", 10, 0);
        for (int wide = 2; wide <= 6; wide++) {
            String cols = "cols repeat " + wide + " auto;";
            GridTracks x = check.told(cols + "item " + wide + " 1 20 0;item " + (wide - 1) + " 1 20 0;");
            check.due("a wider one has nothing to deal", x.column(wide - 1, 2), 0);
            check.due("total(0)", x.total(0), 20);
            x = check.told(cols + "item " + wide + " 1 " + (20 + wide) + " 0;item " + (wide - 1) + " 1 20 0;");
            check.due("a wider one deals the rest", x.column(wide - 1, 2), 1);
            check.due("total(0)", x.total(0), 20 + wide);
        }
    }

    /** "each auto COLUMN grows by the most that any ITEM of that WIDE deals to it; all of one WIDE at once". */
    private static void byTheMostOfAnyAllAtOnce() {
        columns("cols auto;item 1 1 5 0;item 1 1 9 0;item 1 1 7 0;", 9);
        columns("cols auto auto auto;item 2 1 10 0 col 0;item 2 1 10 0 col 1;", 5, 5, 5);
        columns("cols auto auto auto;item 2 1 20 0 col 0;item 2 1 10 0 col 1;", 10, 10, 5);
        columns("cols auto auto auto;item 2 1 10 0 col 1;item 2 1 20 0 col 0;", 10, 10, 5);
        columns("cols auto auto auto;item 2 1 10 0 col 0;item 2 1 11 0 col 1;item 2 1 12 0 col 0;", 6, 6, 5);
    }

    /** "PLACED": of a lost item no column and no row grows, no share, no LEAST. */
    private static void onlyPlacedItems() {
        String lost = "item 1 1 4 4 col 0 row 0;item 1 1 90 90 col 0 row 0;item 2 1 80 80 col 0 row 0;";
        columns("cols auto auto;" + lost, 4, 0);
        columns("cols flex 1 flex 1;" + lost, 4, 4);
        columns("cols flex 1 flex 1;width 20;" + lost, 10, 10);
        check.rows(check.told("cols auto auto;" + lost), 0, 4);
    }

    /** "a SHARE is the greatest of 0 and ..": what is needed may be less than what is there. */
    private static void aShareIs0AtLeast() {
        columns("cols flex 9;", 0);
        columns("cols flex 9;item 1 1 0 0;", 0);
        columns("cols flex 9 fix 50;item 2 1 40 0;", 0, 50);
        columns("cols flex 9 fix 50;item 2 1 50 0;", 0, 50);
        columns("cols flex 9 fix 50;item 2 1 51 0;", 9, 50);
        columns("cols flex 9 fix 50;gap 20 0;item 2 1 70 0;", 0, 50);
        columns("cols flex 9 fix 50;gap 20 0;item 2 1 71 0;", 9, 50);
        columns("cols flex 9 fix 50;item 1 1 99 0 col 1;", 0, 50);
    }

    /** "by all shares of its flex ones (up)". */
    private static void aShareIsCutUp() {
        columns("cols flex 2 flex 3;item 2 1 9 0;", 4, 6);
        columns("cols flex 2 flex 3;item 2 1 10 0;", 4, 6);
        columns("cols flex 2 flex 3;item 2 1 11 0;", 6, 9);
        columns("cols flex 9;item 1 1 1 0;", 9);
        columns("cols flex 9;item 1 1 9 0;", 9);
        columns("cols flex 9;item 1 1 10 0;", 18);
    }

    /** "the greatest": of items of any width, also with auto columns within them. */
    private static void aShareByTheGreatestNeed() {
        columns("cols flex 1 flex 4;item 1 1 3 0 col 0;item 1 1 8 0 col 1;", 3, 12);
        columns("cols flex 1 flex 4;item 1 1 3 0 col 0;item 1 1 16 0 col 1;", 4, 16);
        columns("cols flex 1 flex 4;item 1 1 3 0 col 0;item 2 1 21 0;", 5, 20);
        columns("cols flex 1 auto;gap 2 0;item 1 1 6 0 col 1;item 2 1 20 0;", 12, 6);
    }

    /** "LEFT is WIDTH less all GAPS, all SIZES of COLUMNS that are not flex (0 at least)". */
    private static void leftIs0AtLeast() {
        String cols = "cols fix 10 flex 1 auto;gap 5 0;item 1 1 7 0 col 2;width ";
        columns(cols + "0;", 10, 0, 7);
        columns(cols + "26;", 10, 0, 7);
        columns(cols + "27;", 10, 0, 7);
        columns(cols + "28;", 10, 1, 7);
        columns(cols + "999;", 10, 972, 7);
        columns("cols flex 1;gap 20 0;width 1;", 1);
    }

    /** "The others have their part (down); what is over goes to the first ones, one each." */
    private static void partsAreCutDownAndTheRestIsDealt() {
        String cols = "cols flex 1 flex 1 flex 1;width ";
        columns(cols + "0;", 0, 0, 0);
        columns(cols + "1;", 1, 0, 0);
        columns(cols + "2;", 1, 1, 0);
        columns(cols + "3;", 1, 1, 1);
        columns(cols + "4;", 2, 1, 1);
        columns("cols flex 1 flex 9;width 9;", 1, 8);
        columns("cols fix 1 flex 2 fix 1 flex 1 flex 1;width 13;", 1, 6, 1, 3, 2);
        columns("cols repeat 6 flex 9;width 5;", 1, 1, 1, 1, 1, 0);
        columns("cols flex 1 flex 1 flex 1;width 11;item 1 1 5 0 col 0;", 5, 3, 3);
        columns("cols flex 1 flex 1 flex 1;width 12;item 1 1 5 0 col 0;", 5, 4, 3);
    }

    /** "of which LEAST is more than their part": as much is not more; "parts not cut". */
    private static void frozenWhereLeastIsMoreThanThePart() {
        String cols = "cols flex 1 flex 1;width 20;item 1 1 ";
        columns(cols + "9 0 col 0;", 10, 10);
        columns(cols + "10 0 col 0;", 10, 10);
        columns(cols + "11 0 col 0;", 11, 9);
        columns("cols flex 1 flex 1;width 21;item 1 1 11 0 col 1;", 10, 11);
        columns("cols flex 1 flex 1;width 21;item 1 1 11 0 col 0;", 11, 10);
        columns("cols flex 1 flex 1;width 21;item 1 1 10 0 col 1;", 11, 10);
        columns("cols flex 2 flex 1;width 10;item 1 1 4 0 col 1;", 6, 4);
        columns("cols flex 2 flex 1;width 10;item 1 1 3 0 col 1;", 7, 3);
        columns("cols flex 2 flex 1 flex 1;width 10;item 1 1 5 0 col 0;", 6, 2, 2);
        columns("cols flex 2 flex 1 flex 1;width 9;item 1 1 5 0 col 0;", 5, 2, 2);
        columns("cols flex 2 flex 1 flex 1;width 10;item 1 1 6 0 col 0;", 6, 2, 2);
    }

    /** "LEAST of a flex COLUMN: the most that an ITEM (PLACED, WIDE 1) in it NEEDS (0)." */
    private static void leastIs0WithoutItems() {
        columns("cols flex 1 flex 1;width 0;", 0, 0);
        columns("cols flex 1 flex 1;width 0;item 1 1 1 0;", 1, 0);
        columns("cols flex 1 flex 1;width 0;item 2 1 99 0;", 0, 0);
        columns("cols flex 1 flex 1;width 0;item 1 1 7 0 col 0;item 1 1 9 0 col 0;item 1 1 8 0 col 0;", 9, 0);
        columns("cols flex 1 auto;width 0;item 1 1 9 0 col 1;", 0, 9);
        columns("cols flex 1 fix 3;width 0;item 1 1 9 0 col 1;", 0, 3);
    }

    /** "all of a round at once": several by the parts as they are ahead of it, also such as are more than LEFT together. */
    private static void frozenAllOfARoundAtOnce() {
        columns("cols flex 8 flex 1 flex 1;width 20;item 1 1 3 0 col 1;item 1 1 3 0 col 2;", 14, 3, 3);
        columns("cols flex 1 flex 1 flex 2;width 40;item 1 1 11 0 col 0;item 1 1 12 0 col 1;", 11, 12, 17);
        columns("cols flex 1 flex 1 flex 1;width 30;item 1 1 20 0 col 0;item 1 1 30 0 col 1;", 20, 30, 0);
    }

    /** "Round by round .. till none is": a chain of as many rounds as there may be. */
    private static void frozenRoundByRound() {
        columns("cols flex 1 flex 1 flex 1;width 30;item 1 1 12 0 col 0;item 1 1 9 0 col 1;", 12, 9, 9);
        columns("cols flex 1 flex 1 flex 1;width 30;item 1 1 12 0 col 0;item 1 1 10 0 col 1;", 12, 10, 8);
        columns("cols flex 1 flex 1 flex 1;width 30;item 1 1 12 0 col 0;item 1 1 10 0 col 1;item 1 1 9 0 col 2;", 12, 10, 9);
        columns("cols repeat 6 flex 1;width 120;item 1 1 25 0 col 0;item 1 1 20 0 col 1;item 1 1 19 0 col 2;item 1 1 19 0 col 3;item 1 1 19 0 col 4;",
            25, 20, 19, 19, 19, 18);
        String six = "cols flex 4 flex 7 flex 6 flex 7 flex 4 flex 3;width 165;item 1 1 99 0 col 0;item 1 1 37 0 col 1;item 1 1 14 0 col 2;"
            + "item 1 1 10 0 col 3;item 1 1 4 0 col 4;item 1 1 ";
        columns(six + "2 0 col 5;", 99, 37, 14, 10, 4, 2);
        columns(six + "1 0 col 5;", 99, 37, 14, 10, 4, 1);
    }

    /** What columns, rows and items there were ahead of a text does not matter to fewer of them. */
    private static void nothingOfWhatThereWas() {
        GridTracks x = check.told("cols repeat 6 flex 9;width 60;gap 9 9;high 9;" + "item 1 1 90 90;".repeat(10));
        check.columns(x, 2, 90, 90, 90, 90, 90, 90);
        check.text(x, "cols flex 1 flex 1;width 5;item 1 1 1 0;", 3, 0);
        check.columns(x, 2, 3, 2);
        check.rows(x, 0, 0);
        check.text(x, "cols flex 1 flex 1;width 5;item 1 1 3 0 col 1;", 3, 0);
        check.columns(x, 2, 2, 3);
        check.text(x, "cols flex 1 auto;item 2 1 7 0;", 2, 0);
        check.columns(x, 2, 7, 0);
        check.due("total(0)", x.total(0), 7);
        check.due("total(1)", x.total(1), 0);
    }

    /** "LEFT less what is FROZEN, 0 at least". */
    private static void leftLessWhatIsFrozenIs0AtLeast() {
        columns("cols flex 1 flex 1;width 10;item 1 1 9 0 col 0;", 9, 1);
        columns("cols flex 1 flex 1;width 10;item 1 1 10 0 col 0;", 10, 0);
        columns("cols flex 1 flex 1;width 10;item 1 1 11 0 col 0;", 11, 0);
        columns("cols flex 1 flex 1;width 10;item 1 1 99 0 col 0;item 1 1 0 0 col 1;", 99, 0);
        columns("cols flex 1 flex 1;width 10;item 1 1 99 0 col 0;item 1 1 1 0 col 1;", 99, 1);
    }

    /** With none that is not frozen there is nothing to deal, and nothing that could be divided by. */
    private static void allFrozenOrNoneFlex() {
        columns("cols flex 9;width 5;item 1 1 6 0;", 6);
        columns("cols flex 9;width 6;item 1 1 6 0;", 6);
        columns("cols flex 9;width 7;item 1 1 6 0;", 7);
        columns("cols fix 3 auto;width 999;item 1 1 4 0 col 1;", 3, 4);
        check.due("no columns", check.told("width 999;").total(0), 0);
    }

    /** "ROWS: each HIGH; then for TALL 1 to 4 as auto COLUMNS by WIDE, by what ITEMS NEED in height." */
    private static void rowsAsAutoColumns() {
        rows("item 1 4 0 3;", 1, 1, 1, 0);
        rows("item 1 4 0 4;", 1, 1, 1, 1);
        rows("item 1 4 0 5;", 2, 1, 1, 1);
        rows("gap 0 5;item 1 4 0 15;", 0, 0, 0, 0);
        rows("gap 0 5;item 1 4 0 16;", 1, 0, 0, 0);
        rows("high 2;gap 0 5;item 1 3 0 16;", 2, 2, 2);
        rows("high 2;gap 0 5;item 1 3 0 17;", 3, 2, 2);
        rows("item 1 2 0 10 row 0;item 1 1 0 8 row 0;", 9, 1);
        rows("item 1 3 0 20 row 0;item 1 2 0 20 row 0;", 10, 10, 0);
        rows("item 1 4 0 24 row 0;item 1 3 0 20 row 0;", 8, 8, 7, 1);
        rows("item 1 2 0 10 row 0;item 1 2 0 10 row 1;", 5, 5, 5);
        rows("item 1 1 0 5 row 1;", 0, 5);
    }

    private static void rows(String text, int... sizes) {
        check.rows(check.told("cols flex 1 fix 5;width 9;" + text), 0, sizes);
    }

    /** "START of a COLUMN, a ROW: all SIZES and GAPS ahead of it." */
    private static void startsAndGaps() {
        GridTracks x = check.told("cols fix 4 fix 0 fix 6;gap 20 10;high 7;item 1 3 0 0;");
        check.columns(x, 3, 0, 24, 44);
        check.rows(x, 1, 0, 17, 34);
        x.gap(0, 0);
        check.columns(x, 3, 0, 4, 4);
        check.rows(x, 1, 0, 7, 14);
    }

    /** "BOX of an ITEM ..: its SIZES with the GAPS within": none within one, not those beside it. */
    private static void boxesWithTheGapsWithin() {
        for (int wide = 1; wide <= 3; wide++) {
            for (int tall = 1; tall <= 3; tall++) {
                GridTracks x = check.told("cols repeat 5 fix 6;gap 3 2;high 4;item 5 1 0 0 row 0;item " + wide + " " + tall + " 0 0 col 1 row 1;item 1 1 0 0 row 5;");
                check.due("box(1, 0)", x.box(1, 0), 9);
                check.due("box(1, 1)", x.box(1, 1), 6);
                check.due("box(1, 2)", x.box(1, 2), 9 * wide - 3);
                check.due("box(1, 3)", x.box(1, 3), 6 * tall - 2);
            }
        }
        check.due("a box of no width", check.told("cols auto;item 1 1 0 0;").box(0, 2), 0);
        check.due("a box of no height", check.told("cols auto;item 1 1 0 0;").box(0, 3), 0);
    }

    /** Promise 13: "By how much an ITEM NEEDS more than its BOX has ..; 0: it does not." */
    private static void overOr0() {
        for (int need = 9; need <= 12; need++) {
            GridTracks x = check.told("cols fix 4 fix 3;gap 3 0;item 2 1 " + need + " 9;");
            check.due("over(0, 0)", x.over(0, 0), Math.max(0, need - 10));
            check.due("over(0, 1)", x.over(0, 1), 0);
        }
        check.due("the most", check.told("cols fix 0;item 1 1 99 0;").over(0, 0), 99);
        check.due("in height, of a high row", check.told("cols fix 0;high 50;item 1 1 99 0;").over(0, 1), 0);
        GridTracks x = check.told("cols auto;item 1 1 9 9 col 0 row 0;item 1 1 9 9 col 0 row 0;");
        check.due("over(1, 0) of a lost one", x.over(1, 0), -2);
        check.due("over(1, 1) of a lost one", x.over(1, 1), -2);
    }

    /** Promise 14: "All SIZES of COLUMNS with GAPS between (what 0), of ROWS (1)": none, one, as many as there may be. */
    private static void totals() {
        GridTracks none = check.told("gap 20 20;high 99;width 999;");
        check.due("total(0)", none.total(0), 0);
        check.due("total(1)", none.total(1), 0);
        GridTracks one = check.told("cols fix 5;gap 20 20;high 9;item 1 1 0 0;");
        check.due("total(0)", one.total(0), 5);
        check.due("total(1)", one.total(1), 9);
        GridTracks two = check.told("cols fix 5 fix 6;gap 20 19;high 9;item 1 2 0 0;");
        check.due("total(0)", two.total(0), 31);
        check.due("total(1)", two.total(1), 37);
        check.due("a width does not bind", check.told("cols fix 50;width 20;").total(0), 50);
    }

    private static void asLargeAsMayBe() {
        GridTracks x = check.told("cols repeat 6 fix 99;gap 20 20;high 99;item 1 1 99 99 col 5 row 11;");
        check.due("total(0)", x.total(0), 694);
        check.due("total(1)", x.total(1), 12 * 99 + 11 * 20);
        check.due("box(0, 0)", x.box(0, 0), 595);
        check.due("box(0, 1)", x.box(0, 1), 11 * 119);
        check.due("column(5, 3)", x.column(5, 3), 595);
        check.due("row(11, 1)", x.row(11, 1), 1309);
        columns("cols flex 1 flex 9 flex 9 flex 9 flex 9 flex 9;item 1 1 99 0;", 99, 891, 891, 891, 891, 891);
        columns("cols repeat 6 flex 9;width 999;item 1 1 99 0 col 5;", 167, 167, 167, 166, 166, 166);
    }

    /** Promises 7, 8, 12, 13, 14: BAD. */
    private static void wrongNumbers() {
        Edge edge = new Edge(check, "cols fix 4 auto;item 1 1 3 3;item 1 2 3 3;item 2 1 1 1 col 0 row 0;");
        edge.bounds(0, 1, "column", 0, 0, 3);
        edge.bounds(0, 3, "column", 1, 1, 0);
        edge.bounds(0, 2, "row", 0, 0, 0);
        edge.bounds(0, 1, "row", 1, 1, 0);
        edge.bounds(0, 2, "item", 0, 0, 0);
        edge.bounds(0, 7, "item", 1, 2, 0);
        edge.bounds(0, 2, "box", 0, 0, 3);
        edge.bounds(0, 3, "box", 1, 0, 0);
        edge.bounds(0, 2, "over", 0, 0, 1);
        edge.bounds(0, 1, "over", 1, 0, 0);
        edge.bounds(0, 1, "total", 0, 0);
        check.columns(edge.taken(NONE, "column", 1, 1), 1, 4, NONE);
    }
}
