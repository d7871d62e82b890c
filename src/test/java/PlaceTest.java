/** Promises 6 (1, 3), 9 (6, 7), 11, 15 and 16: where items are placed; at, empty, hole. */
public final class PlaceTest {
    private static final Check check = new Check("PlaceTest");

    public static void main(String[] args) {
        pinsGoFirst();
        pinsOfRowsByOrder();
        firstHoleFromTheTop();
        lostBehindPins();
        lostWithoutRoom();
        rowsAreThoseOfPlacedItems();
        at();
        empty();
        hole();
        check.end();
    }

    private static void pinsGoFirst() {
        GridTracks x = check.told("cols repeat 3 auto; item 2 1 0 0; item 1 1 0 0 col 0; item 1 2 0 0 row 0; item 2 2 0 0 col 1 row 1;");
        check.place(x, 3, 1, 1);
        check.place(x, 2, 0, 0);
        check.place(x, 0, 1, 0);
        check.place(x, 1, 0, 2);
        check.due("rule(1)", x.rule(1), 3);
        check.due("rule(3)", x.rule(3), 0);
        x = check.told("cols auto auto; item 1 1 0 0 row 0; item 1 1 0 0 col 0; item 1 1 0 0 col 0 row 0; item 1 1 0 0 row 0;");
        check.place(x, 2, 0, 0);
        check.place(x, 0, 1, 0);
        check.place(x, 3, -4, -4);
        check.place(x, 1, 0, 1);
    }

    private static void pinsOfRowsByOrder() {
        GridTracks x = check.told("cols repeat 4 auto; item 1 1 0 0; item 2 1 0 0 row 1; item 1 2 0 0 row 0; item 1 1 0 0 col 0;"
            + "item 1 1 0 0 row 0; item 1 1 0 0 row 1; item 1 1 0 0 row 1;");
        check.place(x, 1, 0, 1);
        check.place(x, 2, 2, 0);
        check.place(x, 4, 0, 0);
        check.place(x, 5, 3, 1);
        check.place(x, 6, -4, -4);
        check.place(x, 0, 1, 0);
        check.place(x, 3, 0, 2);
        check.due("rule(3)", x.rule(3), 1);
    }

    private static void firstHoleFromTheTop() {
        GridTracks x = check.told("cols repeat 3 auto; item 2 1 0 0; item 2 2 0 0; item 1 1 0 0; item 1 3 0 0; item 3 1 0 0; item 1 1 0 0 col 1;"
            + "item 1 1 0 0 col 0;");
        check.place(x, 0, 0, 0);
        check.place(x, 1, 0, 1);
        check.place(x, 2, 2, 0);
        check.place(x, 3, 2, 1);
        check.place(x, 4, 0, 4);
        check.place(x, 5, 1, 3);
        check.place(x, 6, 0, 3);
    }

    private static void lostBehindPins() {
        GridTracks x = check.told("cols repeat 3 auto; item 2 2 0 0 col 0 row 0; item 2 2 0 0 col 1 row 1; item 2 1 0 0 row 1; item 1 1 0 0 col 2 row 1;"
            + "item 3 1 0 0 col 0 row 11;");
        check.place(x, 0, 0, 0);
        check.place(x, 1, -4, -4);
        check.place(x, 2, -4, -4);
        check.place(x, 3, 2, 1);
        check.place(x, 4, 0, 11);
        check.due("rule(1)", x.rule(1), 12);
        check.due("rule(3)", x.rule(3), 2);
    }

    private static void lostWithoutRoom() {
        GridTracks x = check.told("cols auto auto; item 2 4 0 0; item 1 4 0 0 col 1; item 2 4 0 0; item 1 1 0 0 col 1; item 1 4 0 0; item 2 1 0 0; item 1 1 0 0;");
        check.place(x, 0, 0, 0);
        check.place(x, 1, 1, 4);
        check.place(x, 2, 0, 8);
        check.place(x, 3, -4, -4);
        check.place(x, 4, 0, 4);
        check.place(x, 5, -4, -4);
        check.place(x, 6, -4, -4);
        check.due("rule(1)", x.rule(1), 12);
        check.due("rule(3)", x.rule(3), 3);
        check.due("hole(1, 1)", x.hole(1, 1), -4);
        check.due("empty()", x.empty(), 0);
    }

    private static void rowsAreThoseOfPlacedItems() {
        GridTracks x = check.told("cols auto; item 1 1 0 0 col 0 row 2; item 1 4 0 0 col 0 row 2;");
        check.due("rule(1)", x.rule(1), 3);
        check.due("row(2, 0)", x.row(2, 0), 0);
        check.due("row(3, 0)", x.row(3, 0), -1);
        check.due("at(0, 2)", x.at(0, 2), 0);
        check.due("at(0, 3)", x.at(0, 3), -1);
        check.due("pin(0, 0, NONE)", x.pin(0, 0, -4), 1);
        check.due("rule(1)", x.rule(1), 6);
        check.place(x, 0, 0, 0);
        check.due("at(0, 5)", x.at(0, 5), 1);
        check.due("at(0, 1)", x.at(0, 1), -4);
    }

    private static void at() {
        GridTracks x = check.told("cols repeat 3 auto; item 2 2 0 0 col 1 row 1; item 1 1 0 0; item 1 2 0 0 col 0 row 2;");
        int[][] due = {{1, -4, -4}, {-4, 0, 0}, {2, 0, 0}, {2, -4, -4}};
        for (int r = 0; r < 4; r++) {
            for (int c = 0; c < 3; c++) {
                check.due("at(" + c + ", " + r + ")", x.at(c, r), due[r][c]);
            }
        }
        check.due("at(3, 0)", x.at(3, 0), -1);
        check.due("at(0, 4)", x.at(0, 4), -1);
        check.due("at(-1, 0)", x.at(-1, 0), -1);
        check.due("at(0, -1)", x.at(0, -1), -1);
    }

    private static void empty() {
        check.due("empty()", check.told("cols repeat 6 auto;").empty(), 0);
        check.due("empty()", check.told("cols repeat 6 auto; item 1 1 0 0 row 11;").empty(), 71);
        check.due("empty()", check.told("cols repeat 3 auto; item 2 2 0 0 col 1 row 1; item 1 1 0 0;").empty(), 4);
        check.due("empty()", check.told("cols auto auto; item 2 2 0 0 col 0 row 0; item 2 1 0 0 row 1;").empty(), 0);
    }

    private static void hole() {
        GridTracks x = check.told("cols repeat 3 auto; item 2 2 0 0 col 1 row 1; item 1 1 0 0;");
        check.due("hole(1, 1)", x.hole(1, 1), 1);
        check.due("hole(2, 1)", x.hole(2, 1), 1);
        check.due("hole(3, 1)", x.hole(3, 1), 300);
        check.due("hole(1, 2)", x.hole(1, 2), 100);
        check.due("hole(2, 2)", x.hole(2, 2), 300);
        check.due("hole(3, 4)", x.hole(3, 4), 300);
        check.due("hole(0, 1)", x.hole(0, 1), -1);
        check.due("hole(4, 1)", x.hole(4, 1), -1);
        check.due("hole(1, 0)", x.hole(1, 0), -1);
        check.due("hole(1, 5)", x.hole(1, 5), -1);
        check.due("hole changes nothing", x.rule(2), 2);
        holeAtTheBottom();
        holeWithTenItems();
    }

    private static void holeAtTheBottom() {
        GridTracks x = check.told("cols auto auto; item 2 4 0 0; item 2 4 0 0; item 2 3 0 0; item 1 1 0 0 col 0 row 11;");
        check.due("hole(1, 1)", x.hole(1, 1), 1101);
        check.due("hole(2, 1)", x.hole(2, 1), -4);
        check.due("hole(1, 2)", x.hole(1, 2), -4);
    }

    private static void holeWithTenItems() {
        GridTracks x = check.told("cols auto auto; " + "item 1 1 0 0;".repeat(10));
        check.due("hole(1, 1)", x.hole(1, 1), 500);
        check.due("hole(2, 4)", x.hole(2, 4), 500);
    }
}
