/**
 * All that can be asked of an object. Some questions change it (an image is asked by back(), the tape by text(), a sheet
 * by read()), so that they are put in parts, each for an object of its own: so an object stays below its 512 calls.
 */
final class Probe {
    static final int PARTS = 5;

    private final GridTracks x;
    private final StringBuilder told = new StringBuilder();

    private Probe(GridTracks x) {
        this.x = x;
    }

    static String part(GridTracks x, int part) {
        Probe probe = new Probe(x);
        switch (part) {
            case 0: probe.answers(); break;
            case 1: probe.tell("back(0)", x.back(0)); probe.answers(); break;
            case 2: probe.tell("back(1)", x.back(1)); probe.answers(); break;
            case 3: probe.tell("text()", x.text()); probe.answers(); break;
            default: probe.sheets(); break;
        }
        return probe.told.toString();
    }

    private void tell(String call, int answer) {
        told.append(call).append(' ').append(answer).append('\n');
    }

    private void answers() {
        for (int what = 0; what < 8; what++) {
            tell("rule(" + what + ")", x.rule(what));
            tell("line(" + what + ")", x.line(what));
        }
        for (int what = 0; what < 6; what++) {
            tell("count(" + what + ")", x.count(what));
        }
        tell("fault()", x.fault());
        tell("torn()", x.torn());
        tell("empty()", x.empty());
        tell("total(0)", x.total(0));
        tell("total(1)", x.total(1));
        columnsAndRows();
        items();
    }

    private void columnsAndRows() {
        int rows = x.rule(1);
        for (int c = 0; c < x.rule(0); c++) {
            for (int what = 0; what < 4; what++) {
                tell("column(" + c + ", " + what + ")", x.column(c, what));
            }
            tell("hole(" + (c + 1) + ", 2)", x.hole(c + 1, 2));
            for (int r = 0; r < rows; r++) {
                tell("at(" + c + ", " + r + ")", x.at(c, r));
            }
        }
        for (int r = 0; r < rows; r++) {
            tell("row(" + r + ", 0)", x.row(r, 0));
            tell("row(" + r + ", 1)", x.row(r, 1));
        }
    }

    private void items() {
        for (int i = 0; i < x.rule(2); i++) {
            for (int what = 0; what < 8; what++) {
                tell("item(" + i + ", " + what + ")", x.item(i, what));
            }
            for (int what = 0; what < 4; what++) {
                tell("box(" + i + ", " + what + ")", x.box(i, what));
            }
            tell("over(" + i + ", 0)", x.over(i, 0));
            tell("over(" + i + ", 1)", x.over(i, 1));
        }
    }

    /** The cells are seen where they make items, the lanes by casts, the lengths by lay(). */
    private void sheets() {
        for (int i = x.rule(2); i > 0; i--) {
            x.drop(0);
        }
        for (int k = 0; k < 4; k++) {
            for (int lane = 0; lane < 3; lane++) {
                // of another lane or of nothing there are no cells to be seen
                int fault = 0;
                for (int f = 0; f < 12 && fault == 0; f += 4) {
                    cells(k, lane, f);
                    fault = x.torn();
                }
            }
            for (int i = 0; i < 14; i++) {
                tell("lay(" + k + ", " + i + ", 1)", x.lay(k, i, 1));
            }
        }
    }

    private void cells(int k, int lane, int f) {
        int came = x.read(k, lane, f, 1);
        tell("read(" + k + ", " + lane + ", " + f + ", 1)", came);
        tell("torn()", x.torn());
        if (came == 1) {
            for (int what = 0; what < 4; what++) {
                tell("cell " + what, x.item(0, what));
            }
            x.drop(0);
        }
    }
}
