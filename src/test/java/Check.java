/** Compares answers with what is due, tells those that differ, and ends the test with their code. */
final class Check {
    private final String test;
    private int asked;
    private int wrong;

    Check(String test) {
        this.test = test;
    }

    void due(String what, int got, int want) {
        asked++;
        if (got != want) {
            wrong++;
            System.out.println(test + ": " + what + " answered " + got + ", due is " + want);
        }
    }

    void holds(String what, boolean isSo) {
        asked++;
        if (!isSo) {
            wrong++;
            System.out.println(test + ": " + what + " does not hold");
        }
    }

    /** Feeds a text and asks what text() and fault() answer. */
    void text(GridTracks x, String text, int answer, int fault) {
        feed(x, text);
        due("text() of \"" + text + "\"", x.text(), answer);
        due("fault() of \"" + text + "\"", x.fault(), fault);
    }

    /** A text with a fault at a place, on a new object. */
    void faulty(String text, int place, int fault) {
        GridTracks x = new GridTracks();
        text(x, text, -10 - place, fault);
        due("count(2) behind \"" + text + "\"", x.count(2), 0);
    }

    /** A text without a fault, on a new object. */
    GridTracks told(String text) {
        GridTracks x = new GridTracks();
        feed(x, text);
        holds("\"" + text + "\" is taken", x.text() >= 0);
        return x;
    }

    static void feed(GridTracks x, String text) {
        for (int k = 0; k < text.length(); k++) {
            x.feed(text.charAt(k));
        }
    }

    /** All that item() answers of an item. */
    void item(GridTracks x, int i, int... want) {
        for (int what = 0; what < want.length; what++) {
            due("item(" + i + ", " + what + ")", x.item(i, what), want[what]);
        }
    }

    void columns(GridTracks x, int what, int... want) {
        due("rule(0)", x.rule(0), want.length);
        for (int c = 0; c < want.length; c++) {
            due("column(" + c + ", " + what + ")", x.column(c, what), want[c]);
        }
    }

    void rows(GridTracks x, int what, int... want) {
        due("rule(1)", x.rule(1), want.length);
        for (int r = 0; r < want.length; r++) {
            due("row(" + r + ", " + what + ")", x.row(r, what), want[r]);
        }
    }

    void place(GridTracks x, int i, int column, int row) {
        due("item(" + i + ", 6)", x.item(i, 6), column);
        due("item(" + i + ", 7)", x.item(i, 7), row);
    }

    void end() {
        System.out.println(test + ": " + asked + " answers, " + wrong + " not as due");
        if (wrong != 0 || asked == 0) {
            System.exit(1);
        }
    }
}
