/** Promises 2 and 3: feed and end. */
public final class TapeTest {
    private static final Check check = new Check("TapeTest");

    public static void main(String[] args) {
        feedTakesBytes();
        tapeHas320Bytes();
        endCuts();
        check.end();
    }

    private static void feedTakesBytes() {
        GridTracks x = new GridTracks();
        check.due("feed(0)", x.feed(0), 1);
        check.due("feed(127)", x.feed(127), 2);
        check.due("feed(128)", x.feed(128), -1);
        check.due("feed(-1)", x.feed(-1), -1);
        check.due("feed(256 + 97)", x.feed(256 + 97), -1);
        check.due("feed(min)", x.feed(Integer.MIN_VALUE), -1);
        check.due("count(2)", x.count(2), 2);
    }

    private static void tapeHas320Bytes() {
        GridTracks x = new GridTracks();
        for (int k = 1; k <= 320; k++) {
            check.due("feed(32)", x.feed(32), k);
        }
        check.due("feed(32) behind 320", x.feed(32), -3);
        check.due("feed(128) behind 320", x.feed(128), -1);
        check.due("count(2)", x.count(2), 320);
        check.due("end(319)", x.end(319), 320);
        check.due("feed(';')", x.feed(';'), 320);
        check.due("text()", x.text(), -10 - 319);
        check.due("fault()", x.fault(), 2);
        check.due("feed(32)", x.feed(32), 1);
    }

    private static void endCuts() {
        GridTracks x = new GridTracks();
        check.due("end(0)", x.end(0), 0);
        check.due("end(1)", x.end(1), -1);
        Check.feed(x, "gap 1 2; nonsense");
        check.due("end(18)", x.end(18), -1);
        check.due("end(-1)", x.end(-1), -1);
        check.due("count(2)", x.count(2), 17);
        check.due("end(17)", x.end(17), 17);
        check.due("end(8)", x.end(8), 17);
        check.due("end(9)", x.end(9), -1);
        check.due("text()", x.text(), 1);
        check.due("rule(5)", x.rule(5), 1);
        check.due("rule(6)", x.rule(6), 2);
        check.due("count(2)", x.count(2), 0);
    }
}
