/** Terms, "Answers": which answer is the first that fits, and what is refused changes nothing; the 512 calls of an object. */
public final class EdgeAnswersTest {
    private static final int NONE = GridTracks.NONE;
    private static final int FAR = Integer.MAX_VALUE;
    private static final int LOW = Integer.MIN_VALUE;
    private static final String TEXT = "cols fix 7 auto flex 2;gap 3 4;width 50;high 6;line b 2;item 1 2 17 18 col 1 row 2;item 2 1 1 9 row 0;"
        + "item 1 1 5 5;item 1 1 2 2 col 1 row 3;";
    private static final Check check = new Check("EdgeAnswersTest");

    public static void main(String[] args) {
        badIsAheadOfAll();
        stateIsAheadOfNothingElse();
        refusedQuestionsChangeNothing();
        refusedChangesChangeNothing();
        refusedSheetsChangeNothing();
        aFullTapeKeepsItsBytes();
        aFullGridKeepsItsItems();
        aRefusedTextTakesTheTapeAlone();
        theCall512IsAnswered();
        check.end();
    }

    /** An object of which each part differs from a new one: grid, image, sheets, faults, tape. */
    private static GridTracks rich() {
        GridTracks x = new GridTracks();
        Check.feed(x, "cols auto;$");
        x.text();
        Check.feed(x, TEXT);
        check.due("text()", x.text(), 9);
        x.keep(0);
        x.set(2, 2, 6);
        Check.feed(x, "gap 1 2 3");
        check.due("text()", x.text(), -18);
        layAll(x, 0, 1, 1, 2, 3, 4, 2, 1, 50, 60, 1, 5, 0, 0);
        layAll(x, 1, 0, 3, 4, 99, 98);
        layAll(x, 2, 2);
        x.read(1, 2, 0, 1);
        check.due("torn()", x.torn(), 3);
        Check.feed(x, "gap 5 6;");
        return x;
    }

    private static void layAll(GridTracks x, int k, int lane, int... cells) {
        x.sheet(k, lane, cells.length);
        for (int i = 0; i < cells.length; i++) {
            x.lay(k, i, cells[i]);
        }
    }

    /** As many items as there may be. */
    private static GridTracks fullGrid() {
        GridTracks x = check.told("cols auto auto;" + "item 1 1 9 9;".repeat(10));
        x.keep(1);
        layAll(x, 0, 1, 1, 2, 3, 4);
        layAll(x, 1, 0, 2, 4, 99, 98, 3, 1, 1, 1);
        return x;
    }

    /** As many bytes as there may be. */
    private static GridTracks fullTape() {
        GridTracks x = check.told("cols auto;item 1 1 9 9;");
        Check.feed(x, " ".repeat(313) + "high 7;");
        check.due("count(2)", x.count(2), 320);
        return x;
    }

    /** "the first that fits": a number that is not as told is BAD, whatever else does not fit. */
    private static void badIsAheadOfAll() {
        Edge rich = new Edge(check, EdgeAnswersTest::rich);
        rich.refused(-1, "box", 3, 4);
        rich.refused(-1, "box", 3, -1);
        rich.refused(-1, "over", 3, 2);
        rich.refused(-1, "over", 3, -1);
        rich.refused(-1, "back", 2);
        rich.refused(-1, "sheet", 4, 0, -1);
        rich.refused(-1, "sheet", 0, 3, -1);
        rich.refused(-1, "lay", 4, 0, 0);
        rich.refused(-1, "lay", -1, -1, 0);
        rich.refused(-1, "read", 4, 0, 0, 1);
        rich.refused(-1, "read", 3, 3, 0, 1);
        rich.refused(-1, "read", 3, 0, 0, 11);
        Edge none = new Edge(check, GridTracks::new);
        none.refused(-1, "scatter", 1, 0);
        none.refused(-1, "scatter", 1, 11);
        none.refused(-1, "hole", 1, 1);
        none.refused(-1, "add", 1, 1, 1, 1);
        none.refused(-1, "at", 0, 0);
    }

    /** STATE where the number is as told. */
    private static void stateIsAheadOfNothingElse() {
        Edge rich = new Edge(check, EdgeAnswersTest::rich);
        for (int what = 0; what < 4; what++) {
            rich.refused(-2, "box", 3, what);
        }
        rich.refused(-2, "over", 3, 0);
        rich.refused(-2, "over", 3, 1);
        rich.refused(-2, "back", 1);
        Edge none = new Edge(check, GridTracks::new);
        none.refused(-2, "scatter", 1, 1);
        none.refused(-2, "scatter", LOW, 10);
        none.refused(-2, "back", 0);
        none.refused(-2, "back", 1);
    }

    private static void refusedQuestionsChangeNothing() {
        Edge rich = new Edge(check, EdgeAnswersTest::rich);
        rich.bounds(0, 7, "rule", 0, 0);
        rich.bounds(0, 2, "column", 0, 0, 2);
        rich.bounds(0, 3, "column", 1, 0, 0);
        rich.bounds(0, 3, "row", 0, 0, 1);
        rich.bounds(0, 1, "row", 1, 0, 0);
        rich.bounds(0, 3, "item", 0, 0, 7);
        rich.bounds(0, 7, "item", 1, 3, 0);
        rich.bounds(0, 7, "line", 0, 0);
        rich.bounds(0, 2, "at", 0, 0, 3);
        rich.bounds(0, 3, "at", 1, 2, 0);
        rich.bounds(0, 3, "box", 0, 0, 0);
        rich.bounds(0, 3, "box", 1, 0, 0);
        rich.bounds(0, 3, "over", 0, 0, 0);
        rich.bounds(0, 1, "over", 1, 0, 0);
        rich.bounds(0, 1, "total", 0, 0);
        rich.bounds(1, 3, "hole", 0, 1, 1);
        rich.bounds(1, 4, "hole", 1, 1, 1);
        rich.bounds(0, 5, "count", 0, 0);
    }

    private static void refusedChangesChangeNothing() {
        Edge rich = new Edge(check, EdgeAnswersTest::rich);
        rich.bounds(1, 3, "add", 0, 1, 1, 1, 1);
        rich.bounds(1, 4, "add", 1, 1, 1, 1, 1);
        rich.bounds(0, 99, "add", 2, 1, 1, 1, 1);
        rich.bounds(0, 99, "add", 3, 1, 1, 1, 1);
        rich.bounds(0, 3, "drop", 0, 0);
        rich.bounds(0, 3, "pin", 0, 0, 0, 0);
        rich.bounds(0, 2, "pin", 1, 0, 0, 0);
        rich.bounds(0, 10, "pin", 2, 0, 0, 0);
        rich.bounds(0, 3, "set", 0, 0, 2, 1);
        rich.bounds(0, 3, "set", 1, 0, 0, 1);
        rich.bounds(1, 2, "set", 2, 0, 0, 1);
        rich.bounds(1, 4, "set", 2, 0, 1, 1);
        rich.bounds(0, 99, "set", 2, 0, 2, 1);
        rich.bounds(0, 99, "set", 2, 0, 3, 1);
        rich.bounds(0, 3, "swap", 0, 0, 1);
        rich.bounds(0, 3, "swap", 1, 1, 0);
        rich.bounds(0, 2, "track", 0, 0, 1, 0);
        rich.bounds(0, 99, "track", 2, 1, 0, 0);
        rich.bounds(0, 0, "track", 2, 0, 1, 0);
        rich.bounds(1, 9, "track", 2, 1, 2, 0);
        rich.refused(-1, "track", 1, -1, 1);
        rich.refused(-1, "track", 1, 3, 1);
        rich.bounds(0, 999, "width", 0, 0);
        rich.bounds(0, 20, "gap", 0, 0, 0);
        rich.bounds(0, 20, "gap", 1, 0, 0);
        rich.bounds(0, 99, "high", 0, 0);
        rich.bounds(1, 10, "scatter", 1, 5, 1);
        rich.bounds(0, 1, "keep", 0, 0);
        rich.bounds(0, 1, "back", 0, 0);
    }

    private static void refusedSheetsChangeNothing() {
        Edge rich = new Edge(check, EdgeAnswersTest::rich);
        rich.bounds(0, 127, "feed", 0, 0);
        rich.bounds(0, 8, "end", 0, 0);
        rich.bounds(0, 3, "sheet", 0, 0, 1, 4);
        rich.bounds(0, 2, "sheet", 1, 0, 1, 4);
        rich.bounds(0, 3, "lay", 0, 0, 0, 1);
        rich.bounds(0, 3, "read", 0, 0, 0, 0, 1);
        rich.bounds(0, 2, "read", 1, 0, 0, 0, 1);
        rich.bounds(0, 10, "read", 3, 0, 0, 0, 1);
        rich.refused(-1, "sheet", 0, 0, 41);
        rich.refused(-1, "sheet", 0, 0, FAR);
        rich.refused(-14, "sheet", 0, 0, -1);
        rich.refused(-14, "sheet", 3, 2, LOW);
        rich.refused(-12, "lay", 0, 12, 1);
        rich.refused(-12, "lay", 0, -1, 1);
        rich.refused(-12, "lay", 2, 0, 1);
        rich.refused(-11, "lay", 3, 0, 1);
        rich.refused(-20, "read", 0, 1, 8, 1);
        rich.refused(-21, "read", 0, 1, 4, 2);
        rich.refused(-22, "read", 0, 1, 0, 10);
    }

    /** "FULL": of the tape. */
    private static void aFullTapeKeepsItsBytes() {
        Edge full = new Edge(check, EdgeAnswersTest::fullTape);
        full.refused(-3, "feed", 0);
        full.refused(-3, "feed", ';');
        full.refused(-3, "feed", 127);
        full.refused(-1, "feed", 128);
        full.refused(-1, "feed", -1);
        full.refused(-1, "end", 321);
        full.taken(320, "end", 320);
        full.taken(320, "end", 0);
    }

    /** "FULL": of items; a read() says it as add()'s refusal, scatter() by how many came. */
    private static void aFullGridKeepsItsItems() {
        Edge full = new Edge(check, EdgeAnswersTest::fullGrid);
        full.refused(-3, "add", 1, 1, 0, 0);
        full.refused(-3, "add", 2, 4, 99, 99);
        full.refused(-1, "add", 3, 1, 0, 0);
        full.refused(-1, "add", 1, 1, 0, 100);
        full.refused(-20, "read", 0, 1, 0, 1);
        full.refused(0, "scatter", 7, 1);
        full.refused(0, "scatter", 7, 10);
        full.refused(-1, "scatter", 7, 11);
    }

    /** "what is refused changes nothing (but THE TAPE, as told)": the tape is empty behind a text that is refused. */
    private static void aRefusedTextTakesTheTapeAlone() {
        String[] texts = {"$", "cols", "cols fix 100;", "gap 1 1;gap 2 2;", "cols repeat 4 auto auto;", "cols auto;item 2 1 1 1;"};
        for (String text : texts) {
            for (int part = 0; part < Probe.PARTS; part++) {
                GridTracks spoilt = rich();
                GridTracks cut = rich();
                spoilt.end(0);
                cut.end(0);
                Check.feed(spoilt, text);
                check.holds(text + " is refused", spoilt.text() <= -10);
                check.due("count(2)", spoilt.count(2), 0);
                check.holds(text + " changes nothing", withoutFault(spoilt, part).equals(withoutFault(cut, part)));
            }
        }
    }

    private static String withoutFault(GridTracks x, int part) {
        return Probe.part(x, part).replaceAll("fault\\(\\) .", "");
    }

    /** "An object is used for at most 512 calls": the last of them is answered like any other. */
    private static void theCall512IsAnswered() {
        GridTracks x = new GridTracks();
        int calls = 0;
        for (int k = 0; k < 300; k++, calls++) {
            x.feed(' ');
        }
        Check.feed(x, "cols auto;");
        x.text();
        for (calls += 11; calls < 510; calls++) {
            check.due("high()", x.high(calls % 100), calls == 311 ? 0 : (calls - 1) % 100);
        }
        check.due("call 511", x.add(1, 1, 7, 8), 1);
        check.due("call 512", x.total(0), 7);
    }
}
