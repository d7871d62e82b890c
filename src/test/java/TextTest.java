/** Promises 4 to 7, 9 and 10, where they tell what a text told: text, fault, rule, column, item, line. */
public final class TextTest {
    private static final Check check = new Check("TextTest");

    public static void main(String[] args) {
        allIsTold();
        blanksAreNotNeeded();
        repeats();
        pins();
        namedLines();
        aTextIsInPlaceOfAll();
        aFaultLeavesAll();
        wrongNumbers();
        check.end();
    }

    private static void allIsTold() {
        GridTracks x = new GridTracks();
        check.text(x, "cols fix 7 auto flex 3; gap 2 5; width 200; high 9; line c 1; item 2 3 40 50; item 1 1 0 99;", 7, 0);
        int[] rules = {3, 3, 2, 0, 200, 2, 5, 9};
        for (int what = 0; what < rules.length; what++) {
            check.due("rule(" + what + ")", x.rule(what), rules[what]);
        }
        check.columns(x, 0, 0, 1, 2);
        check.columns(x, 1, 7, -4, 3);
        check.item(x, 0, 2, 3, 40, 50, -4, -4, 0, 0);
        check.item(x, 1, 1, 1, 0, 99, -4, -4, 2, 0);
        check.due("line(2)", x.line(2), 1);
        check.due("line(1)", x.line(1), -4);
    }

    private static void blanksAreNotNeeded() {
        GridTracks x = new GridTracks();
        check.text(x, "cols repeat2fix07flex1;item1 1 2 3at", -10 - 36, 2);
        check.text(x, "linea 0;", -10, 2);
        check.text(x, "line a0;line f003;cols repeat2fix07flex1;item1 1 2 3at f row2;", 4, 0);
        check.item(x, 0, 1, 1, 2, 3, 3, 2, 3, 2);
        check.columns(x, 1, 7, 1, 7, 1);
        check.due("line(0)", x.line(0), 0);
        check.due("line(5)", x.line(5), 3);
    }

    private static void repeats() {
        check.columns(check.told("cols repeat 3 fix 4 flex 2;"), 1, 4, 2, 4, 2, 4, 2);
        check.columns(check.told("cols repeat 6 auto;"), 0, 1, 1, 1, 1, 1, 1);
        check.columns(check.told("cols repeat 1 fix 1 fix 2 fix 3 fix 4 fix 5 fix 6;"), 1, 1, 2, 3, 4, 5, 6);
        check.columns(check.told("cols repeat 2 fix 0 auto flex 9;"), 0, 0, 1, 2, 0, 1, 2);
        check.columns(check.told("cols fix 99;"), 2, 99);
    }

    private static void pins() {
        GridTracks x = check.told("cols repeat 6 auto; line h 4; line a 0; item 1 4 1 1 row 8; item 2 1 1 1 at h;"
            + "item 1 1 1 1 col 5 row 11; item 1 1 1 1 row 0 at a;");
        check.item(x, 0, 1, 4, 1, 1, -4, 8);
        check.item(x, 1, 2, 1, 1, 1, 4, -4);
        check.item(x, 2, 1, 1, 1, 1, 5, 11);
        check.item(x, 3, 1, 1, 1, 1, 0, 0);
        check.due("count(1)", x.count(1), 4);
    }

    private static void namedLines() {
        GridTracks x = check.told("line a 0; line b 1; line c 2; line d 3; line e 4; line f 5; line g 6; cols repeat 6 fix 1;");
        for (int v = 0; v < 7; v++) {
            check.due("line(" + v + ")", x.line(v), v);
        }
        check.due("line(7)", x.line(7), -4);
        check.due("line(8)", x.line(8), -1);
        check.due("line(-1)", x.line(-1), -1);
        check.due("line of no columns", check.told("line a 0;").line(0), 0);
    }

    private static void aTextIsInPlaceOfAll() {
        GridTracks x = check.told("cols auto auto; gap 3 4; width 50; high 6; line b 2; item 1 1 1 1 col 1 row 2;");
        x.keep(0);
        x.keep(1);
        x.sheet(0, 1, 5);
        check.due("count(0)", x.count(0), 2);
        check.text(x, "   ", 0, 0);
        int[] rules = {0, 0, 0, 0, -4, 0, 0, 0};
        for (int what = 0; what < rules.length; what++) {
            check.due("rule(" + what + ")", x.rule(what), rules[what]);
        }
        check.due("line(1)", x.line(1), -4);
        check.due("count(0)", x.count(0), 0);
        check.due("back(0)", x.back(0), -2);
        check.due("back(1)", x.back(1), -2);
        check.due("count(3)", x.count(3), 5);
        check.text(x, "item 1 1 0 0;cols auto;", 2, 0);
        check.item(x, 0, 1, 1, 0, 0, -4, -4, 0, 0);
    }

    private static void aFaultLeavesAll() {
        GridTracks x = check.told("cols auto fix 8; gap 3 4; width 50; high 6; line b 2; item 1 1 17 1 col 1 row 2;");
        x.keep(1);
        check.text(x, "cols flex 1; gap 1 1; width 1; high 1; line a 0; item 1 1 1 1; item 2 1 1 1;", -10 - 76, 6);
        check.text(x, "cols flex 1; gap 1 1; width 1; high 1; line a 0; item 1 1 1 1; oops", -10 - 63, 2);
        int[] rules = {2, 3, 1, 0, 50, 3, 4, 6};
        for (int what = 0; what < rules.length; what++) {
            check.due("rule(" + what + ")", x.rule(what), rules[what]);
        }
        check.columns(x, 0, 1, 0);
        check.item(x, 0, 1, 1, 17, 1, 1, 2, 1, 2);
        check.due("line(0)", x.line(0), -4);
        check.due("line(1)", x.line(1), 2);
        check.due("back(1)", x.back(1), 1);
        check.due("fault() stays", x.fault(), 2);
        check.text(x, "", 0, 0);
    }

    private static void wrongNumbers() {
        GridTracks x = check.told("cols auto; item 1 1 1 1;");
        check.due("rule(8)", x.rule(8), -1);
        check.due("rule(-1)", x.rule(-1), -1);
        check.due("column(1, 0)", x.column(1, 0), -1);
        check.due("column(-1, 0)", x.column(-1, 0), -1);
        check.due("column(0, 4)", x.column(0, 4), -1);
        check.due("column(0, -1)", x.column(0, -1), -1);
        check.due("row(1, 0)", x.row(1, 0), -1);
        check.due("row(-1, 0)", x.row(-1, 0), -1);
        check.due("row(0, 2)", x.row(0, 2), -1);
        check.due("row(0, -1)", x.row(0, -1), -1);
        check.due("item(1, 0)", x.item(1, 0), -1);
        check.due("item(-1, 0)", x.item(-1, 0), -1);
        check.due("item(0, 8)", x.item(0, 8), -1);
        check.due("item(0, -1)", x.item(0, -1), -1);
    }
}
