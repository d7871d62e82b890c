/** Terms, 2, where items are placed and which are lost; promises 6 (1, 3), 9 (6, 7), 11, 15 and 16. */
public final class EdgePlacesTest {
    private static final int NONE = GridTracks.NONE;
    private static final Check check = new Check("EdgePlacesTest");

    public static void main(String[] args) {
        thereAre12Rows();
        besideButNotUpon();
        allItsColumnsByAllItsRows();
        bothPinsByOrder();
        bothPinsAheadOfAPinOfRows();
        aPinOfRowsAtTheFirstColumn();
        aPinOfRowsFindsNoOtherRow();
        aPinOfRowsAheadOfAPinOfColumns();
        aPinOfColumnsAtTheFirstRow();
        aPinOfColumnsFindsNoOtherColumn();
        theOthersByOrder();
        withoutAnyAtTheFirstRowThenColumn();
        theLostAreNowhere();
        rowsToTheLastOfAnyItem();
        atEachPlace();
        emptyFromNoneToAll();
        holeWhereOneMoreWouldBe();
        holeIsWhereAddPutsIt();
        holeOrNone();
        check.end();
    }

    /** "There are 12 ROWS for placing." The last is row 11. */
    private static void thereAre12Rows() {
        GridTracks x = check.told("cols auto;item 1 4 0 0;item 1 4 0 0;item 1 3 0 0;item 1 1 0 0;item 1 1 0 0;");
        check.place(x, 2, 0, 8);
        check.place(x, 3, 0, 11);
        check.place(x, 4, NONE, NONE);
        check.due("rule(1)", x.rule(1), 12);
        check.due("rule(3)", x.rule(3), 1);
        for (int tall = 1; tall <= 4; tall++) {
            check.due("as many rows as are left", filled(12 - tall).hole(1, tall), 100 * (12 - tall));
            check.due("one row less", filled(13 - tall).hole(1, tall), NONE);
        }
    }

    /** One column whose first rows are taken. */
    private static GridTracks filled(int rows) {
        GridTracks x = check.told("cols auto;");
        for (int r = 0; r < rows; r += 4) {
            x.add(1, Math.min(4, rows - r), 0, 0);
        }
        return x;
    }

    /** "each where no other one is that is PLACED already": neighbours on all four sides do not matter. */
    private static void besideButNotUpon() {
        String middle = "cols repeat 5 auto;item 1 1 0 0 col 2 row 2;item ";
        String[] beside = {"2 1 0 0 col 0 row 2;", "2 1 0 0 col 3 row 2;", "1 2 0 0 col 2 row 0;", "1 4 0 0 col 2 row 3;", "5 2 0 0 col 0 row 0;"};
        String[] upon = {"2 1 0 0 col 1 row 2;", "2 1 0 0 col 2 row 2;", "1 2 0 0 col 2 row 1;", "1 4 0 0 col 2 row 2;", "5 3 0 0 col 0 row 0;"};
        for (int k = 0; k < beside.length; k++) {
            check.due(beside[k], check.told(middle + beside[k]).rule(3), 0);
            check.due(upon[k], check.told(middle + upon[k]).rule(3), 1);
        }
    }

    /** "(all its COLUMNS by all its ROWS)": one place that is taken anywhere in it is enough. */
    private static void allItsColumnsByAllItsRows() {
        for (int c = 0; c < 6; c++) {
            for (int r = 0; r < 4; r++) {
                GridTracks x = check.told("cols repeat 6 auto;item 1 1 0 0 col " + c + " row " + r + ";item 6 4 0 0 col 0 row 0;item 6 4 0 0;");
                check.place(x, 1, NONE, NONE);
                check.place(x, 2, 0, r + 1);
            }
        }
    }

    /** "first those with both PINS, by order, there". */
    private static void bothPinsByOrder() {
        GridTracks x = check.told("cols auto auto;item 1 1 0 0 col 1 row 5;item 2 1 0 0 col 0 row 5;item 1 1 0 0 col 0 row 5;");
        check.place(x, 0, 1, 5);
        check.place(x, 1, NONE, NONE);
        check.place(x, 2, 0, 5);
        check.due("swap(0, 1)", x.swap(0, 1), 1);
        check.place(x, 0, 0, 5);
        check.place(x, 1, NONE, NONE);
        check.place(x, 2, NONE, NONE);
    }

    private static void bothPinsAheadOfAPinOfRows() {
        GridTracks x = check.told("cols auto auto;item 2 1 0 0 row 0;item 1 1 0 0 col 1 row 0;");
        check.place(x, 0, NONE, NONE);
        check.place(x, 1, 1, 0);
    }

    /** "then those with a PIN of ROWS alone, by order, at the first COLUMN from 0 on". */
    private static void aPinOfRowsAtTheFirstColumn() {
        GridTracks x = check.told("cols repeat 4 auto;item 1 1 0 0 row 3;item 2 1 0 0 row 3;item 1 1 0 0 row 3;");
        check.place(x, 0, 0, 3);
        check.place(x, 1, 1, 3);
        check.place(x, 2, 3, 3);
        x = check.told("cols repeat 4 auto;item 1 2 0 0 col 0 row 2;item 1 2 0 0 row 3;item 2 2 0 0 row 10;");
        check.place(x, 1, 1, 3);
        check.place(x, 2, 0, 10);
    }

    /** It is LOST where its rows are full, whatever stays empty above and below. */
    private static void aPinOfRowsFindsNoOtherRow() {
        GridTracks x = check.told("cols auto auto auto;item 1 1 0 0 col 1 row 4;item 2 1 0 0 row 4;item 1 2 0 0 row 3;item 1 2 0 0 row 4;item 1 1 0 0 row 4;");
        check.place(x, 1, NONE, NONE);
        check.place(x, 2, 0, 3);
        check.place(x, 3, 2, 4);
        check.place(x, 4, NONE, NONE);
        check.due("rule(3)", x.rule(3), 2);
    }

    private static void aPinOfRowsAheadOfAPinOfColumns() {
        GridTracks x = check.told("cols auto auto;item 1 1 0 0 col 0;item 1 1 0 0;item 1 1 0 0 row 0;");
        check.place(x, 2, 0, 0);
        check.place(x, 0, 0, 1);
        check.place(x, 1, 1, 0);
    }

    /** "with a PIN of COLUMNS at the first ROW from 0 on". */
    private static void aPinOfColumnsAtTheFirstRow() {
        GridTracks x = check.told("cols auto auto auto;item 1 1 0 0 col 1 row 1;item 1 1 0 0 col 1;item 2 1 0 0 col 1;item 1 2 0 0 col 0;item 1 1 0 0 col 1;");
        check.place(x, 1, 1, 0);
        check.place(x, 2, 1, 2);
        check.place(x, 3, 0, 0);
        check.place(x, 4, 1, 3);
    }

    /** It is LOST where its columns are full, whatever stays empty beside them; row 11 is the last that it may have. */
    private static void aPinOfColumnsFindsNoOtherColumn() {
        String full = "cols auto auto;item 1 4 0 0 col 1;item 1 4 0 0 col 1;item 1 3 0 0 col 1;";
        GridTracks x = check.told(full + "item 1 1 0 0 col 1;item 1 1 0 0 col 1;item 1 1 0 0;");
        check.place(x, 3, 1, 11);
        check.place(x, 4, NONE, NONE);
        check.place(x, 5, 0, 0);
        check.place(check.told(full + "item 1 2 0 0 col 1;"), 3, NONE, NONE);
    }

    /** "then the others, by order": with a pin of columns and without any, none of them ahead. */
    private static void theOthersByOrder() {
        GridTracks x = check.told("cols auto auto;item 1 1 0 0;item 1 1 0 0 col 0;item 1 1 0 0;");
        check.place(x, 0, 0, 0);
        check.place(x, 1, 0, 1);
        check.place(x, 2, 1, 0);
        check.due("swap(0, 1)", x.swap(0, 1), 1);
        check.place(x, 0, 0, 0);
        check.place(x, 1, 1, 0);
        check.place(x, 2, 0, 1);
    }

    /** "without any at the first ROW, in that at the first COLUMN"; a later one may come into a hole further up. */
    private static void withoutAnyAtTheFirstRowThenColumn() {
        GridTracks x = check.told("cols auto auto auto;item 2 1 0 0;item 2 1 0 0;item 1 1 0 0;item 1 1 0 0;item 3 1 0 0;item 1 2 0 0;item 1 1 0 0;");
        check.place(x, 0, 0, 0);
        check.place(x, 1, 0, 1);
        check.place(x, 2, 2, 0);
        check.place(x, 3, 2, 1);
        check.place(x, 4, 0, 2);
        check.place(x, 5, 0, 3);
        check.place(x, 6, 1, 3);
    }

    /** "One that finds no place is LOST": it stands nowhere, takes no room and is counted. */
    private static void theLostAreNowhere() {
        GridTracks x = check.told("cols auto;item 1 1 3 3 col 0 row 0;item 1 4 9 9 col 0 row 0;item 1 1 5 5;");
        check.place(x, 1, NONE, NONE);
        check.place(x, 2, 0, 1);
        check.due("rule(3)", x.rule(3), 1);
        check.due("box(1, 0)", x.box(1, 0), -2);
        check.due("over(1, 0)", x.over(1, 0), -2);
        check.due("none is lost", check.told("cols auto;").rule(3), 0);
        check.due("all but one are lost", check.told("cols auto;" + "item 1 1 0 0 col 0 row 0;".repeat(10)).rule(3), 9);
    }

    /** "ROWS are those from 0 to the last that any ITEM has." */
    private static void rowsToTheLastOfAnyItem() {
        check.due("no items", check.told("cols auto;").rule(1), 0);
        for (int r = 0; r <= 11; r++) {
            GridTracks x = check.told("cols auto;item 1 1 0 0;item 1 1 0 0 row " + r + ";");
            int rows = Math.max(r + 1, 1 + (r == 0 ? 1 : 0));
            check.due("rule(1)", x.rule(1), rows);
            check.due("the last row", x.row(rows - 1, 0), 0);
            check.due("no row behind", x.row(rows, 0), -1);
        }
        for (int tall = 1; tall <= 4; tall++) {
            check.due("rule(1)", check.told("cols auto;item 1 " + tall + " 0 0 row " + (12 - tall) + ";").rule(1), 12);
            check.due("rule(1)", check.told("cols auto;item 1 " + tall + " 0 0;").rule(1), tall);
        }
        check.due("a lost item has no rows", check.told("cols auto;item 1 1 0 0 col 0 row 0;item 1 4 0 0 col 0 row 0;").rule(1), 1);
    }

    /** Promise 11: an item at all its places, NONE beside it, BAD outside of columns and rows. */
    private static void atEachPlace() {
        GridTracks x = check.told("cols repeat 4 auto;item 2 2 0 0 col 1 row 1;item 1 1 0 0 col 3 row 3;");
        for (int c = -1; c <= 4; c++) {
            for (int r = -1; r <= 4; r++) {
                boolean isIn = c >= 0 && c < 4 && r >= 0 && r < 4;
                boolean isFirst = c >= 1 && c <= 2 && r >= 1 && r <= 2;
                check.due("at(" + c + ", " + r + ")", x.at(c, r), !isIn ? -1 : isFirst ? 0 : c == 3 && r == 3 ? 1 : NONE);
            }
        }
        check.due("no rows", check.told("cols auto;").at(0, 0), -1);
        check.due("no columns", new GridTracks().at(0, 0), -1);
        new Edge(check, "cols auto auto;item 1 1 0 0 row 2;").bounds(0, 1, "at", 0, 0, 2);
        new Edge(check, "cols auto auto;item 1 1 0 0 row 2;").bounds(0, 2, "at", 1, 1, 0);
    }

    /** Promise 15: "How many places (COLUMNS by ROWS) have no ITEM." */
    private static void emptyFromNoneToAll() {
        check.due("no columns", new GridTracks().empty(), 0);
        check.due("no rows", check.told("cols repeat 6 auto;").empty(), 0);
        check.due("all taken", check.told("cols auto auto;item 2 1 0 0;").empty(), 0);
        check.due("all but one", check.told("cols auto auto;item 1 1 0 0;").empty(), 1);
        check.due("the most", check.told("cols repeat 6 auto;item 1 1 0 0 row 11;").empty(), 71);
        check.due("72 places taken", check.told("cols repeat 6 auto;item 6 4 0 0;item 6 4 0 0;item 6 4 0 0;item 1 1 0 0;").empty(), 0);
        check.due("the lost take none", check.told("cols auto auto;item 1 1 0 0 col 0 row 0;item 2 1 0 0 col 0 row 0;").empty(), 1);
    }

    /** Promise 16: "100 times its first ROW, and its first COLUMN". */
    private static void holeWhereOneMoreWouldBe() {
        check.due("hole of an empty grid", check.told("cols auto;").hole(1, 1), 0);
        check.due("hole of an empty grid", check.told("cols repeat 6 auto;").hole(6, 4), 0);
        check.due("the last place", check.told("cols repeat 6 auto;item 6 4 0 0;item 6 4 0 0;item 6 3 0 0;item 5 1 0 0;").hole(1, 1), 1105);
        check.due("behind the last row", check.told("cols auto;item 1 1 0 0;").hole(1, 1), 100);
        Edge edge = new Edge(check, "cols auto auto auto;item 1 1 0 0 col 1;");
        edge.bounds(1, 3, "hole", 0, 1, 1);
        edge.bounds(1, 4, "hole", 1, 1, 1);
        edge.refused(0, "hole", 1, 1);
        edge.refused(100, "hole", 2, 1);
        edge.refused(0, "hole", 1, 4);
    }

    /** Promises 16 and 17: add() puts the item there, whatever its size. */
    private static void holeIsWhereAddPutsIt() {
        for (int w = 1; w <= 4; w++) {
            for (int h = 1; h <= 4; h++) {
                GridTracks x = check.told("cols repeat 4 auto;item 2 2 0 0 col 1 row 1;item 1 1 0 0 col 3 row 4;item 1 1 0 0 row 0;");
                int hole = x.hole(w, h);
                check.due("add()", x.add(w, h, 0, 0), 4);
                check.due("the hole", 100 * x.item(3, 7) + x.item(3, 6), hole);
            }
        }
    }

    /** Promise 16, "NONE: it would be LOST". */
    private static void holeOrNone() {
        String eleven = "cols auto auto;item 2 4 0 0;item 2 4 0 0;item 2 3 0 0;";
        GridTracks x = check.told(eleven);
        check.due("hole(2, 1)", x.hole(2, 1), 1100);
        check.due("hole(1, 2)", x.hole(1, 2), NONE);
        x = check.told(eleven + "item 1 1 0 0;");
        check.due("hole(1, 1)", x.hole(1, 1), 1101);
        check.due("hole(2, 1)", x.hole(2, 1), NONE);
        Edge full = new Edge(check, eleven + "item 2 1 0 0;");
        full.refused(NONE, "hole", 1, 1);
        full.refused(NONE, "hole", 2, 4);
        full.refused(-1, "hole", 3, 1);
        full.refused(-1, "hole", 1, 5);
    }
}
