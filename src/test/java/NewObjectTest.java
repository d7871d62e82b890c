/** Promise 1, and the constants. */
public final class NewObjectTest {
    private static final Check check = new Check("NewObjectTest");

    public static void main(String[] args) {
        check.due("BAD", GridTracks.BAD, -1);
        check.due("STATE", GridTracks.STATE, -2);
        check.due("FULL", GridTracks.FULL, -3);
        check.due("NONE", GridTracks.NONE, -4);
        nothingIsThere(new GridTracks());
        sheetsAreNothing(new GridTracks());
        check.end();
    }

    private static void nothingIsThere(GridTracks x) {
        int[] rules = {0, 0, 0, 0, -4, 0, 0, 0};
        for (int what = 0; what < rules.length; what++) {
            check.due("rule(" + what + ")", x.rule(what), rules[what]);
        }
        int[] counts = {0, 0, 0, -4, 0, 0};
        for (int what = 0; what < counts.length; what++) {
            check.due("count(" + what + ")", x.count(what), counts[what]);
        }
        for (int v = 0; v < 8; v++) {
            check.due("line(" + v + ")", x.line(v), -4);
        }
        check.due("fault()", x.fault(), 0);
        check.due("torn()", x.torn(), 0);
        check.due("total(0)", x.total(0), 0);
        check.due("total(1)", x.total(1), 0);
        check.due("empty()", x.empty(), 0);
        check.due("hole(1, 1)", x.hole(1, 1), -1);
        check.due("column(0, 0)", x.column(0, 0), -1);
        check.due("row(0, 0)", x.row(0, 0), -1);
        check.due("item(0, 0)", x.item(0, 0), -1);
        check.due("at(0, 0)", x.at(0, 0), -1);
        check.due("add(1, 1, 1, 1)", x.add(1, 1, 1, 1), -1);
        check.due("scatter(1, 1)", x.scatter(1, 1), -2);
        check.due("back(0)", x.back(0), -2);
        check.due("back(1)", x.back(1), -2);
    }

    private static void sheetsAreNothing(GridTracks x) {
        for (int k = 0; k < 4; k++) {
            check.due("lay(" + k + ", 0, 1)", x.lay(k, 0, 1), -11);
            check.due("read(" + k + ", 0, 0, 1)", x.read(k, 0, 0, 1), 0);
            check.due("torn()", x.torn(), 1);
        }
    }
}
