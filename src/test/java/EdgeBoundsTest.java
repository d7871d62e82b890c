/** Terms, 1: the bounds of columns, gaps, width, high, items, pins and lines, as a text tells them and as calls change them. */
public final class EdgeBoundsTest {
    private static final int NONE = GridTracks.NONE;
    private static final Check check = new Check("EdgeBoundsTest");

    public static void main(String[] args) {
        atFirst();
        columns();
        columnsByRepeats();
        fixNumbers();
        autoNumbers();
        flexNumbers();
        gaps();
        width();
        high();
        highIsTheLeastOfEachRow();
        tenItems();
        wide();
        wideIsAtMostTheColumns();
        tall();
        needs();
        pinsOfColumns();
        pinsOfRows();
        pinsOrNone();
        lines();
        linesAtMostTheColumns();
        check.end();
    }

    /** A number of a text: the first and the last that are taken, and fault 3 at its first byte outside of them. */
    private static void number(String ahead, int least, int most, String behind) {
        for (int n : new int[] {least, most}) {
            check.told(ahead + n + behind);
        }
        if (least > 0) {
            check.faulty(ahead + (least - 1) + behind, ahead.length(), 3);
        }
        if (most < 999) {
            check.faulty(ahead + (most + 1) + behind, ahead.length(), 3);
            check.faulty(ahead + 999 + behind, ahead.length(), 3);
        }
        check.faulty(ahead + 1000 + behind, ahead.length(), 1);
    }

    /** "none at first", "0 at first". */
    private static void atFirst() {
        GridTracks x = new GridTracks();
        check.due("no columns", x.rule(0), 0);
        check.due("no rows", x.rule(1), 0);
        check.due("no items", x.rule(2), 0);
        check.due("no width", x.rule(4), NONE);
        check.due("gap between columns", x.rule(5), 0);
        check.due("gap between rows", x.rule(6), 0);
        check.due("high", x.rule(7), 0);
        check.due("width()", x.width(0), NONE);
        check.due("gap()", x.gap(0, 0), 0);
        check.due("high()", x.high(0), 0);
        for (int v = 0; v < 8; v++) {
            check.due("line(" + v + ") is nowhere", x.line(v), NONE);
        }
    }

    /** "COLUMNS 0 on (6 at most)". */
    private static void columns() {
        check.due("no cols line", check.told("gap 0 0;").rule(0), 0);
        for (int n = 1; n <= 8; n++) {
            String text = "cols" + " auto".repeat(n) + ";";
            if (n <= 6) {
                GridTracks x = check.told(text);
                check.due("rule(0)", x.rule(0), n);
                check.due("the last column", x.column(n - 1, 0), 1);
                check.due("no column behind", x.column(n, 0), -1);
            } else {
                check.faulty(text, text.length() - 1, 5);
            }
        }
    }

    /** "repeat: all of the line, N (1 to 6) times", and 6 columns at most with all repeats. */
    private static void columnsByRepeats() {
        number("cols repeat ", 1, 6, " auto;");
        for (int times = 1; times <= 6; times++) {
            for (int tracks = 1; tracks <= 7; tracks++) {
                String text = "cols repeat " + times + " flex 3".repeat(tracks) + ";";
                if (times * tracks <= 6) {
                    check.due(text, check.told(text).rule(0), times * tracks);
                    check.due(text, check.told(text).column(times * tracks - 1, 1), 3);
                } else {
                    check.faulty(text, text.length() - 1, 5);
                }
            }
        }
    }

    /** "0 fix (a NUMBER, 0 to 99: it is so wide)". */
    private static void fixNumbers() {
        number("cols fix ", 0, 99, ";");
        Edge edge = new Edge(check, "cols fix 1;");
        edge.bounds(0, 99, "track", 2, 0, 0, 0);
        check.columns(edge.taken(0, "track", 0, 0, 0), 2, 0);
        check.columns(edge.taken(0, "track", 0, 0, 99), 2, 99);
        check.columns(check.told("cols fix 99 fix 0; width 5; item 2 1 50 0; item 1 1 77 0 col 1;"), 2, 99, 0);
    }

    /** "1 auto": no number, told as 0, answered as NONE. */
    private static void autoNumbers() {
        Edge edge = new Edge(check, "cols fix 1;");
        edge.bounds(0, 0, "track", 2, 0, 1, 0);
        edge.refused(-1, "track", 0, 1, NONE);
        check.columns(edge.taken(0, "track", 0, 1, 0), 1, NONE);
        check.faulty("cols auto 0;", 10, 2);
    }

    /** "2 flex (a NUMBER, 1 to 9: so many shares)". */
    private static void flexNumbers() {
        number("cols flex ", 1, 9, ";");
        Edge edge = new Edge(check, "cols fix 1;");
        edge.bounds(1, 9, "track", 2, 0, 2, 1);
        check.due("count(4)", edge.taken(0, "track", 0, 2, 1).count(4), 1);
        check.due("count(4)", edge.taken(0, "track", 0, 2, 9).count(4), 9);
        check.due("count(4) of all that may be", check.told("cols repeat 6 flex 9;").count(4), 54);
    }

    /** "GAPS between COLUMNS, between ROWS (0 to 20 each; 0 at first)". */
    private static void gaps() {
        number("gap ", 0, 20, " 0;");
        number("gap 20 ", 0, 20, ";");
        Edge edge = new Edge(check, "gap 1 2;");
        edge.bounds(0, 20, "gap", 0, 0, 20);
        edge.bounds(0, 20, "gap", 1, 20, 0);
        GridTracks x = edge.taken(102, "gap", 20, 20);
        check.due("gap(0, 20)", x.gap(0, 20), 2020);
        check.due("gap(20, 0)", x.gap(20, 0), 20);
        check.due("gap(0, 0)", x.gap(0, 0), 2000);
    }

    /** "WIDTH (0 to 999, or none; none at first)". */
    private static void width() {
        number("width ", 0, 999, ";");
        Edge edge = new Edge(check, "cols flex 1; width 7;");
        edge.bounds(0, 999, "width", 0, 0);
        for (int w : new int[] {-2, -3, -5}) {
            edge.refused(-1, "width", w);
        }
        check.due("rule(4)", edge.taken(7, "width", NONE).rule(4), NONE);
        check.due("rule(4)", edge.taken(7, "width", 0).rule(4), 0);
        check.due("column(0, 2)", edge.taken(7, "width", 999).column(0, 2), 999);
    }

    /** "HIGH (0 to 99; 0 at first)". */
    private static void high() {
        number("high ", 0, 99, ";");
        new Edge(check, "high 7;").bounds(0, 99, "high", 0, 0);
    }

    /** "so high is each ROW at least": also a row without an item; an item that needs just as much does not matter. */
    private static void highIsTheLeastOfEachRow() {
        check.rows(check.told("cols auto; high 5; item 1 1 0 0 row 2;"), 0, 5, 5, 5);
        check.rows(check.told("cols auto; high 5; item 1 1 0 4;"), 0, 5);
        check.rows(check.told("cols auto; high 5; item 1 1 0 5;"), 0, 5);
        check.rows(check.told("cols auto; high 5; item 1 1 0 6;"), 0, 6);
        check.rows(check.told("cols auto; high 99; item 1 1 0 99;"), 0, 99);
        check.due("no rows, none of them high", check.told("cols auto; high 99;").total(1), 0);
    }

    /** "ITEMS 0 on (10 at most)": in a text, by add(), scatter() and read(). */
    private static void tenItems() {
        String nine = "cols auto;" + "item 1 1 1 1;".repeat(9);
        String ten = nine + "item 1 1 1 1;";
        check.due("rule(2)", check.told("cols auto;").rule(2), 0);
        check.due("rule(2)", check.told(ten).rule(2), 10);
        check.due("item(9, 0)", check.told(ten).item(9, 0), 1);
        check.due("item(10, 0)", check.told(ten).item(10, 0), -1);
        check.faulty(ten + "item", ten.length(), 5);
        Edge withNine = new Edge(check, () -> withSheet(nine));
        check.due("rule(2)", withNine.taken(10, "add", 1, 1, 1, 1).rule(2), 10);
        check.due("rule(2)", withNine.taken(1, "scatter", 1, 10).rule(2), 10);
        check.due("rule(2)", withNine.taken(1, "read", 0, 2, 0, 1).rule(2), 10);
        withNine.refused(-21, "read", 0, 2, 0, 2);
        Edge withTen = new Edge(check, () -> withSheet(ten));
        withTen.refused(-3, "add", 1, 1, 1, 1);
        withTen.refused(0, "scatter", 1, 1);
        withTen.refused(-20, "read", 0, 2, 0, 1);
    }

    /** Two items of one column and one row on sheet 0. */
    private static GridTracks withSheet(String text) {
        GridTracks x = check.told(text);
        x.sheet(0, 2, 8);
        for (int i = 0; i < 8; i++) {
            x.lay(0, i, i % 4 < 2 ? 1 : 0);
        }
        return x;
    }

    /** "WIDE (1 to 6 COLUMNS, ..": the bounds are met as the number is read, the columns behind all. */
    private static void wide() {
        number("cols repeat 6 auto; item ", 1, 6, " 1 0 0;");
        Edge edge = new Edge(check, "cols repeat 6 auto; item 2 1 0 0;");
        edge.bounds(1, 6, "add", 0, 1, 1, 1, 1);
        edge.bounds(1, 6, "set", 2, 0, 0, 1);
        edge.bounds(1, 6, "hole", 0, 1, 1);
    }

    /** ".. as many as there are at most)": in each grid, in a text, by add(), set(), hole() and read(). */
    private static void wideIsAtMostTheColumns() {
        for (int n = 1; n <= 5; n++) {
            String cols = "cols repeat " + n + " auto;";
            String text = cols + "item " + (n + 1) + " 1 0 0;";
            check.told(cols + "item " + n + " 1 0 0;");
            check.faulty(text, text.length(), 6);
            Edge edge = new Edge(check, () -> withSheet(cols + "item 1 1 0 0;"));
            edge.bounds(1, n, "add", 0, 1, 1, 1, 1);
            edge.bounds(1, n, "set", 2, 0, 0, 1);
            edge.bounds(1, n, "hole", 0, 1, 1);
            GridTracks x = withSheet(cols);
            x.lay(0, 0, n + 1);
            check.due("read() of an item too wide", x.read(0, 2, 0, 1), -20);
            x.lay(0, 0, n);
            check.due("read() of an item all wide", x.read(0, 2, 0, 1), 1);
        }
    }

    /** "TALL (1 to 4 ROWS)". */
    private static void tall() {
        number("cols auto; item 1 ", 1, 4, " 0 0;");
        Edge edge = new Edge(check, "cols auto; item 1 2 0 0;");
        edge.bounds(1, 4, "add", 1, 1, 1, 1, 1);
        edge.bounds(1, 4, "set", 2, 0, 1, 1);
        edge.bounds(1, 4, "hole", 1, 1, 1);
    }

    /** "NEEDS in width, in height (0 to 99 each)". */
    private static void needs() {
        number("cols auto; item 1 1 ", 0, 99, " 0;");
        number("cols auto; item 1 1 0 ", 0, 99, ";");
        Edge edge = new Edge(check, "cols auto; item 1 1 5 6;");
        edge.bounds(0, 99, "add", 2, 1, 1, 0, 0);
        edge.bounds(0, 99, "add", 3, 1, 1, 0, 0);
        edge.bounds(0, 99, "set", 2, 0, 2, 0);
        edge.bounds(0, 99, "set", 2, 0, 3, 0);
        check.due("count(5) of all that may be", check.told("cols auto;" + "item 1 1 99 99;".repeat(10)).count(5), 990);
    }

    /** "the first COLUMN (that it may have: all of it is in the grid)". */
    private static void pinsOfColumns() {
        number("cols repeat 6 auto; item 1 1 0 0 col ", 0, 5, ";");
        for (int n = 1; n <= 6; n++) {
            for (int wide = 1; wide <= n; wide++) {
                String item = "cols repeat " + n + " auto; item " + wide + " 1 0 0";
                Edge edge = new Edge(check, item + ";");
                edge.bounds(0, n - wide, "pin", 1, 0, 0, 0);
                edge.bounds(0, n - wide, "pin", 1, 0, 0, NONE);
                check.due("item(0, 4)", check.told(item + " col " + (n - wide) + ";").item(0, 4), n - wide);
                if (n - wide + 1 <= 5) {
                    String text = item + " col " + (n - wide + 1) + ";";
                    check.faulty(text, text.length(), 6);
                }
            }
        }
    }

    /** "the first ROW (0 to 12 less TALL)". */
    private static void pinsOfRows() {
        number("cols auto; item 1 1 0 0 row ", 0, 11, ";");
        for (int tall = 1; tall <= 4; tall++) {
            String item = "cols auto; item 1 " + tall + " 0 0";
            Edge edge = new Edge(check, item + ";");
            edge.bounds(0, 12 - tall, "pin", 2, 0, 0, 0);
            edge.bounds(0, 12 - tall, "pin", 2, 0, NONE, 0);
            check.due("item(0, 5)", check.told(item + " row " + (12 - tall) + ";").item(0, 5), 12 - tall);
            if (tall > 1) {
                String text = item + " row " + (13 - tall) + ";";
                check.faulty(text, text.length(), 6);
            }
        }
    }

    /** ".. or none of each": NONE alone stands for it, no other number below 0. */
    private static void pinsOrNone() {
        Edge edge = new Edge(check, "cols auto auto; item 1 1 0 0 col 1 row 2;");
        check.item(edge.taken(1, "pin", 0, NONE, NONE), 0, 1, 1, 0, 0, NONE, NONE, 0, 0);
        check.item(edge.taken(1, "pin", 0, 1, NONE), 0, 1, 1, 0, 0, 1, NONE, 1, 0);
        check.item(edge.taken(1, "pin", 0, NONE, 2), 0, 1, 1, 0, 0, NONE, 2, 0, 2);
        for (int none : new int[] {-1, -2, -3, -5}) {
            edge.refused(-1, "pin", 0, none, 0);
            edge.refused(-1, "pin", 0, 0, none);
            edge.refused(-1, "pin", 0, NONE, none);
            edge.refused(-1, "pin", 0, none, NONE);
        }
    }

    /** "LINES a to h: each at 0 to 6 ..". */
    private static void lines() {
        for (char v = 'a'; v <= 'h'; v++) {
            number("cols repeat 6 auto; line " + v + " ", 0, 6, ";");
            GridTracks x = check.told("cols repeat 6 auto; line " + v + " 6;");
            for (int w = 0; w < 8; w++) {
                check.due("line(" + w + ")", x.line(w), w == v - 'a' ? 6 : NONE);
            }
        }
        check.faulty("line i 0;", 5, 2);
        check.faulty("line z 0;", 5, 2);
        check.faulty("line `0;", 5, 1);
        new Edge(check, "line a 0; line h 0;").bounds(0, 7, "line", 0, 0);
    }

    /** ".. (the COLUMN it is ahead of; COLUMNS at most)". */
    private static void linesAtMostTheColumns() {
        for (int n = 0; n <= 5; n++) {
            String cols = n == 0 ? "" : "cols repeat " + n + " auto;";
            check.due("line(7)", check.told(cols + "line h " + n + ";").line(7), n);
            check.due("line(7)", check.told("line h " + n + ";" + cols).line(7), n);
            String text = cols + "line h " + (n + 1) + ";";
            check.faulty(text, text.length(), 6);
            check.faulty("line h " + (n + 1) + ";" + cols, text.length(), 6);
        }
    }
}
