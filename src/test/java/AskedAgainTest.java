/** Promises 4, 17 to 26, 28 and 31: what was asked ahead of a change is not answered behind it. */
public final class AskedAgainTest {
    private static final int NONE = GridTracks.NONE;
    private static final Check check = new Check("AskedAgainTest");

    public static void main(String[] args) {
        text();
        items();
        set();
        scatter();
        back();
        read();
        lostAndEmpty();
        frozen();
        cutTape();
        check.end();
    }

    private static void text() {
        GridTracks x = check.told("cols flex 1 flex 2 auto; width 30; item 1 1 3 4; item 1 1 20 4; item 1 1 9 4;");
        check.columns(x, 2, 3, 20, 9);
        check.text(x, "cols flex 1 flex 2; width 30;", 2, 0);
        check.columns(x, 2, 10, 20);
        check.due("count(4)", x.count(4), 3);
        check.due("total(1)", x.total(1), 0);
        check.text(x, "cols flex 3; width 31; item 1 1 1 1;", 3, 0);
        check.columns(x, 2, 31);
        check.due("count(4)", x.count(4), 3);
        check.due("count(5)", x.count(5), 1);
        check.text(x, "cols flex 3; item 1 1 4 1;", 2, 0);
        check.columns(x, 2, 6);
        check.text(x, "cols auto;", 1, 0);
        check.columns(x, 2, 0);
        check.due("count(4)", x.count(4), 0);
    }

    private static void items() {
        GridTracks x = check.told("cols auto flex 1; width 9; item 1 1 5 4; item 1 1 8 2; item 1 2 50 20 col 1 row 2;");
        check.due("at(1, 3)", x.at(1, 3), 2);
        check.columns(x, 2, 5, 50);
        check.due("pin(0, 0, 3)", x.pin(0, 0, 3), 1);
        check.due("at(0, 0)", x.at(0, 0), 1);
        check.due("drop(2)", x.drop(2), 2);
        check.due("at(1, 3)", x.at(1, 3), NONE);
        check.due("count(1)", x.count(1), 1);
        check.due("count(5)", x.count(5), 13);
        check.columns(x, 2, 8, 1);
        check.due("swap(0, 1)", x.swap(0, 1), 1);
        check.due("at(0, 0)", x.at(0, 0), 0);
        check.due("track(0, 0, 2)", x.track(0, 0, 2), 1);
        check.columns(x, 2, 2, 7);
    }

    private static void set() {
        GridTracks x = check.told("cols auto auto; item 1 1 5 4; item 1 1 8 2;");
        check.place(x, 1, 1, 0);
        check.due("set(0, 0, 2)", x.set(0, 0, 2), 1);
        check.place(x, 1, 0, 1);
        check.due("set(0, 3, 9)", x.set(0, 3, 9), 4);
        check.rows(x, 0, 9, 2);
        check.due("set(0, 2, 20)", x.set(0, 2, 20), 5);
        check.columns(x, 2, 14, 6);
        check.due("set(0, 1, 2)", x.set(0, 1, 2), 1);
        check.place(x, 1, 0, 2);
    }

    private static void scatter() {
        GridTracks x = check.told("cols auto;");
        check.due("rule(1)", x.rule(1), 0);
        check.due("scatter(0, 1)", x.scatter(0, 1), 1);
        check.item(x, 0, 1, 1, 0, 0, NONE, NONE, 0, 0);
        check.due("rule(1)", x.rule(1), 1);
    }

    private static void back() {
        GridTracks x = check.told("cols auto; item 1 1 5 4;");
        x.keep(0);
        x.add(1, 2, 7, 7);
        check.due("total(0)", x.total(0), 7);
        check.due("rule(1)", x.rule(1), 3);
        check.due("back(0)", x.back(0), 1);
        check.due("total(0)", x.total(0), 5);
        check.due("rule(1)", x.rule(1), 1);
    }

    private static void read() {
        GridTracks x = check.told("cols auto; item 1 1 5 4;");
        int[] cells = {1, 2, 30, 3, 2, 1, 1, 1};
        x.sheet(0, 0, 8);
        for (int i = 0; i < 8; i++) {
            x.lay(0, i, cells[i]);
        }
        check.due("rule(1)", x.rule(1), 1);
        check.due("read(0, 0, 0, 2)", x.read(0, 0, 0, 2), -21);
        check.due("rule(1)", x.rule(1), 1);
        check.due("total(0)", x.total(0), 5);
        check.due("item(1, 0)", x.item(1, 0), -1);
        check.due("read(0, 0, 0, 1)", x.read(0, 0, 0, 1), 1);
        check.due("rule(1)", x.rule(1), 3);
        check.due("total(0)", x.total(0), 30);
    }

    private static void lostAndEmpty() {
        GridTracks x = check.told("cols auto auto; item 1 1 0 0 col 0 row 1; item 1 1 0 0 col 0 row 1;");
        for (int k = 0; k < 3; k++) {
            check.due("rule(3)", x.rule(3), 1);
            check.due("empty()", x.empty(), 3);
            check.due("high(1)", x.high(1), k == 0 ? 0 : 1);
        }
        check.due("pin(1, 1, 0)", x.pin(1, 1, 0), 1);
        check.due("rule(3)", x.rule(3), 0);
        check.due("empty()", x.empty(), 2);
    }

    private static void frozen() {
        GridTracks x = check.told("cols flex 1 flex 1; width 10; item 1 1 8 0;");
        check.columns(x, 2, 8, 2);
        check.due("width(20)", x.width(20), 10);
        check.columns(x, 2, 10, 10);
        check.due("width(9)", x.width(9), 20);
        check.columns(x, 2, 8, 1);
        check.due("drop(0)", x.drop(0), 0);
        check.columns(x, 2, 5, 4);
    }

    /** What stood on the tape behind its end is not read. */
    private static void cutTape() {
        cut("cols auto;", 8, 5, 2);
        cut("high 55;", 6, 6, 2);
        cut("high 5   ;", 6, 6, 2);
        cut("high 5;", 6, 6, 2);
        cut("gap 1 1;gap", 8, -1, 0);
    }

    private static void cut(String text, int length, int place, int fault) {
        GridTracks x = new GridTracks();
        Check.feed(x, text);
        check.due("end(" + length + ")", x.end(length), text.length());
        check.text(x, "", place < 0 ? 1 : -10 - place, fault);
    }
}
