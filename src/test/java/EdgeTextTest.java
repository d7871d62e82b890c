import java.util.List;

/** Terms, 1, the tape, its tokens and faults; promises 2 to 5: feed, end, text, fault. */
public final class EdgeTextTest {
    private static final Check check = new Check("EdgeTextTest");

    public static void main(String[] args) {
        feedTakesBytes();
        theTapeHas320Bytes();
        endKeepsTheFirst();
        placesAreFrom0();
        blanksBetween();
        namesAreOfLettersAToZ();
        namesAreAsLongAsMayBe();
        numbersHave1To3Figures();
        oneSemicolon();
        linesFrom0To22();
        aTextTellsAll();
        aTextThatIsTakenTakesImages();
        aTextThatIsRefusedLeavesImages();
        theTapeIsEmptyThen();
        faultOfTheLatest();
        faultsAreTheFirstMet();
        theEndIsAtTheLength();
        eachTokenThatCanNotStandThere();
        theSecondTime();
        theSecondPin();
        atOfALineToldSoFar();
        theEleventhItem();
        tracksTooMany();
        notAllInTheGrid();
        check.end();
    }

    /** Promise 2: "A byte (0 to 127)": each of them comes, none beside them. */
    private static void feedTakesBytes() {
        GridTracks x = new GridTracks();
        for (int c = 0; c <= 127; c++) {
            check.due("feed(" + c + ")", x.feed(c), c + 1);
        }
        Edge edge = new Edge(check, GridTracks::new);
        edge.bounds(0, 127, "feed", 0, 0);
        edge.refused(-1, "feed", 255);
        edge.refused(-1, "feed", 256 + ';');
        edge.refused(-1, "feed", -128);
    }

    /** "THE TAPE has 320 bytes"; "FULL: more than 320". */
    private static void theTapeHas320Bytes() {
        GridTracks x = new GridTracks();
        Check.feed(x, " ".repeat(313) + "high 7");
        check.due("feed 320", x.feed(';'), 320);
        check.due("feed 321", x.feed(';'), -3);
        check.due("feed 321", x.feed(' '), -3);
        check.due("count(2)", x.count(2), 320);
        check.due("text()", x.text(), 1);
        check.due("rule(7)", x.rule(7), 7);
        check.due("feed behind text()", x.feed(' '), 1);
    }

    /** Promise 3: "THE TAPE keeps its first n bytes: how many it had." From none to all. */
    private static void endKeepsTheFirst() {
        check.due("end(0) of nothing", new GridTracks().end(0), 0);
        new Edge(check, GridTracks::new).bounds(0, 0, "end", 0, 0);
        String text = "high 1;high 2;high 3;";
        for (int n = 0; n <= text.length(); n++) {
            GridTracks x = new GridTracks();
            Check.feed(x, text);
            check.due("end(" + n + ")", x.end(n), 21);
            check.due("count(2)", x.count(2), n);
            check.due("end(" + (n + 1) + ")", x.end(n + 1), -1);
            check.due("end(" + n + ")", x.end(n), n);
        }
        GridTracks x = new GridTracks();
        Check.feed(x, text);
        x.end(5);
        Check.feed(x, "9;");
        check.due("text() of high 9;", x.text(), 1);
        check.due("rule(7)", x.rule(7), 9);
        x = new GridTracks();
        Check.feed(x, " ".repeat(320));
        check.due("end(321)", x.end(321), -1);
        check.due("end(320)", x.end(320), 320);
        check.due("end(319)", x.end(319), 320);
        check.due("feed()", x.feed(' '), 320);
        check.due("feed()", x.feed(' '), -3);
    }

    /** "places from 0": -10 at the first byte, -329 at the last, -330 behind it. */
    private static void placesAreFrom0() {
        check.text(new GridTracks(), "$", -10, 1);
        check.text(new GridTracks(), " $", -11, 1);
        check.text(new GridTracks(), " ".repeat(319) + "$", -329, 1);
        check.text(new GridTracks(), " ".repeat(316) + "high", -330, 2);
        check.text(new GridTracks(), " ".repeat(320), 0, 0);
    }

    /** "blanks (32) between": none, one or many, and no other byte. */
    private static void blanksBetween() {
        check.text(new GridTracks(), "high7;gap1 2;", 2, 0);
        check.text(new GridTracks(), "  high   7   ;   gap   1   2   ;   ", 2, 0);
        for (int c = 0; c <= 127; c++) {
            boolean isPart = c == ' ' || c == ';' || c >= 'a' && c <= 'z' || c >= '0' && c <= '9';
            if (!isPart) {
                check.faulty("high" + (char) c + "7;", 4, 1);
                check.faulty((char) c + "high 7;", 0, 1);
                check.faulty("high 7;" + (char) c, 7, 1);
            }
        }
        check.text(new GridTracks(), "gap 12;", -16, 2);
        check.text(new GridTracks(), "gap 1 2 ;", 1, 0);
        check.text(new GridTracks(), "hi gh 7;", -10, 2);
    }

    /** "NAMES (a .. z)": the first and the last letter are of names, their neighbours and great letters are no tokens. */
    private static void namesAreOfLettersAToZ() {
        check.faulty("a", 0, 2);
        check.faulty("z", 0, 2);
        check.faulty("`", 0, 1);
        check.faulty("{", 0, 1);
        check.faulty("HIGH 7;", 0, 1);
        check.faulty("higH 7;", 0, 2);
        check.faulty("high`7;", 4, 1);
        check.faulty("highz7;", 0, 2);
    }

    /** "each as long as may be": a name ends where no letter is, so that a longer name is another one. */
    private static void namesAreAsLongAsMayBe() {
        check.faulty("highhigh 7;", 0, 2);
        check.faulty("hig 7;", 0, 2);
        check.faulty("bigh 7;", 0, 2);
        check.faulty("higs 7;", 0, 2);
        check.faulty("colsauto;", 0, 2);
        check.faulty("cols autoauto;", 5, 2);
        check.faulty("linea 0;", 0, 2);
        check.faulty("x".repeat(320), 0, 2);
        check.columns(check.told("cols fix1auto flex2fix3;"), 0, 0, 1, 2, 0);
        check.item(check.told("cols auto;item1 1 2 3col0row4;"), 0, 1, 1, 2, 3, 0, 4);
    }

    /** "NUMBERS (1 to 3 figures)"; fault 1, "a NUMBER that is too long (its first byte)". */
    private static void numbersHave1To3Figures() {
        for (String n : new String[] {"7", "07", "007"}) {
            check.due("high " + n, check.told("high " + n + ";").rule(7), 7);
        }
        check.due("width 000", check.told("width 000;").rule(4), 0);
        check.due("width 999", check.told("width 999;").rule(4), 999);
        check.faulty("high 0007;", 5, 1);
        check.faulty("width 1000;", 6, 1);
        check.faulty("width 4294967296;", 6, 1);
        check.faulty("width 4294967303" + "0".repeat(300) + ";", 6, 1);
        check.faulty("0000", 0, 1);
        check.faulty("000", 0, 2);
        check.faulty("high 7/;", 6, 1);
        check.faulty("high 7:;", 6, 1);
        check.faulty("high /;", 5, 1);
        check.faulty("high :;", 5, 1);
        check.due("a figure 9", check.told("high 99;").rule(7), 99);
        check.due("a figure 0", check.told("high 0;").rule(7), 0);
        check.faulty("item 1 1 1 1 0001;", 13, 1);
    }

    /** "one ;": each is a token of its own; an empty line is none. */
    private static void oneSemicolon() {
        check.faulty(";", 0, 2);
        check.faulty("high 7;;", 7, 2);
        check.faulty("high 7; ;", 8, 2);
        check.faulty("high;7;", 4, 2);
        check.text(new GridTracks(), "high 7;gap 0 0;", 2, 0);
    }

    /** Promise 4, "how many lines": none, one, and as many as there may be. */
    private static void linesFrom0To22() {
        check.text(new GridTracks(), "", 0, 0);
        check.text(new GridTracks(), " ", 0, 0);
        check.text(new GridTracks(), "cols auto;", 1, 0);
        StringBuilder all = new StringBuilder("width0;high0;gap0 0;");
        for (char v = 'a'; v <= 'h'; v++) {
            all.append("line ").append(v).append("1;");
        }
        all.append("item1 1 0 0;".repeat(10)).append("cols auto;");
        check.text(new GridTracks(), all.toString(), 22, 0);
    }

    /** "A text that is taken tells all, in place of what there was": also what it does not tell. */
    private static void aTextTellsAll() {
        GridTracks x = check.told("cols fix 1 flex 2; gap 3 4; width 50; high 6; line a 1; line h 2; item 1 1 7 8 col 1 row 9;");
        check.text(x, "", 0, 0);
        check.holds("all is as new", Probe.part(x, 0).equals(Probe.part(new GridTracks(), 0)));
        x = check.told("cols fix 1 flex 2; gap 3 4; width 50; high 6; line a 1; item 1 1 7 8 col 1 row 9; item 2 1 9 9;");
        check.text(x, "cols auto; item 1 2 3 4;", 2, 0);
        check.holds("all is as told to a new one", Probe.part(x, 0).equals(Probe.part(check.told("cols auto; item 1 2 3 4;"), 0)));
    }

    /** "IMAGES are gone": both; the sheets and the fault of a read() are not. */
    private static void aTextThatIsTakenTakesImages() {
        for (String text : new String[] {"", "cols auto;"}) {
            GridTracks x = withImages();
            x.sheet(0, 1, 7);
            x.read(0, 0, 0, 1);
            check.text(x, text, text.isEmpty() ? 0 : 1, 0);
            check.due("count(0)", x.count(0), 0);
            check.due("back(0)", x.back(0), -2);
            check.due("back(1)", x.back(1), -2);
            check.due("keep(0)", x.keep(0), 0);
            check.due("count(3)", x.count(3), 7);
            check.due("torn()", x.torn(), 3);
        }
    }

    private static GridTracks withImages() {
        GridTracks x = check.told("cols auto auto; item 1 1 5 6;");
        x.keep(0);
        x.add(2, 1, 1, 1);
        x.keep(1);
        return x;
    }

    /** Promise 4, "that which was told stays". */
    private static void aTextThatIsRefusedLeavesImages() {
        for (String text : new String[] {"$", "cols", "high 100;", "high 1;high", "cols repeat 6 auto auto;", "line a 1;"}) {
            GridTracks x = withImages();
            Check.feed(x, text);
            check.holds(text + " is refused", x.text() <= -10);
            check.due("count(0)", x.count(0), 2);
            check.due("rule(2)", x.rule(2), 2);
            check.due("back(0)", x.back(0), 1);
            check.due("back(1)", x.back(1), 2);
        }
    }

    /** Promise 4, "THE TAPE (empty then)": whether the text is taken or not. */
    private static void theTapeIsEmptyThen() {
        for (String text : new String[] {"", " ", "high 1;", "high 1", "high 100;", "$", "line a 1;"}) {
            GridTracks x = new GridTracks();
            Check.feed(x, text);
            x.text();
            check.due("count(2) behind " + text, x.count(2), 0);
            check.due("end(0) behind " + text, x.end(0), 0);
            check.due("end(1) behind " + text, x.end(1), -1);
            check.due("text() behind " + text, x.text(), 0);
        }
    }

    /** Promise 5: "The FAULT of the latest text(); 0." */
    private static void faultOfTheLatest() {
        String[] texts = {"$", "x", "high 100;", "high 1;high", "cols repeat 6 auto auto;", "line a 1;"};
        GridTracks x = new GridTracks();
        check.due("fault() ahead of all", x.fault(), 0);
        for (int k = 0; k < texts.length; k++) {
            Check.feed(x, texts[k]);
            check.due("fault() ahead of text()", x.fault(), k == 0 ? 0 : k);
            x.text();
            check.due("fault()", x.fault(), k + 1);
            check.due("fault() again", x.fault(), k + 1);
        }
        x.high(3);
        x.end(0);
        check.due("fault() behind other calls", x.fault(), 6);
        check.text(x, "high 2;", 1, 0);
    }

    /** "the first met as it is read (a TOKEN is read when the one before has been taken)". */
    private static void faultsAreTheFirstMet() {
        check.faulty("high 100$", 5, 3);
        check.faulty("high $100", 5, 1);
        check.faulty("high 7 8$", 7, 2);
        check.faulty("high 1;high$", 7, 4);
        check.faulty("line a 0;line a$", 14, 4);
        check.faulty("line a 7$", 7, 3);
        check.faulty("item 1 1 1 1 at b$", 16, 4);
        check.faulty("item 1 1 1 1 row 1 row$", 19, 4);
        check.faulty("item 7 5 100 100 x;", 5, 3);
        check.faulty("item 9 1 1 1;cols repeat 6 auto auto;", 5, 3);
        check.faulty("item 2 1 1 1;cols repeat 6 auto auto;", 36, 5);
        check.faulty("item 2 1 1 1;cols auto;$", 23, 1);
        check.faulty("item 2 1 1 1;cols auto;", 23, 6);
    }

    /** "or the end: the length": wherever a line may be cut, blanks behind it or not. */
    private static void theEndIsAtTheLength() {
        String text = "line b 0;cols repeat 2 fix 3 auto flex 4;gap 5 6;width 7;high 8;item 1 1 1 1 at b row 2;";
        for (int n = 1; n < text.length(); n++) {
            boolean isBetweenTokens = !Character.isLetterOrDigit(text.charAt(n)) || !Character.isLetterOrDigit(text.charAt(n - 1));
            String cut = text.substring(0, n);
            if (isBetweenTokens && !cut.endsWith(";")) {
                check.faulty(cut, n, 2);
                check.faulty(cut + "   ", n + 3, 2);
            }
        }
        check.text(new GridTracks(), text, 6, 0);
    }

    /** Fault 2: at each place of each line each token that is not told of there. */
    private static void eachTokenThatCanNotStandThere() {
        String[] all = {"a", "h", "cols", "gap", "width", "high", "line", "item", "repeat", "fix", "auto", "flex", "at", "col", "row", "zz", "1", ";"};
        stand(all, "", "cols", "gap", "width", "high", "line", "item");
        stand(all, "cols ", "repeat", "fix", "auto", "flex");
        stand(all, "cols repeat ", "1");
        stand(all, "cols repeat 2 ", "fix", "auto", "flex");
        stand(all, "cols auto ", "fix", "auto", "flex", ";");
        stand(all, "cols repeat 2 auto ", "fix", "auto", "flex", ";");
        stand(all, "cols fix ", "1");
        stand(all, "cols flex ", "1");
        stand(all, "cols fix 1 ", "fix", "auto", "flex", ";");
        stand(all, "gap ", "1");
        stand(all, "gap 1 ", "1");
        stand(all, "gap 1 1 ", ";");
        stand(all, "width ", "1");
        stand(all, "width 1 ", ";");
        stand(all, "high ", "1");
        stand(all, "high 1 ", ";");
        stand(all, "line ", "a", "h");
        stand(all, "line b ", "1");
        stand(all, "line b 1 ", ";");
        stand(all, "item ", "1");
        stand(all, "item 1 ", "1");
        stand(all, "item 1 1 ", "1");
        stand(all, "item 1 1 1 ", "1");
        stand(all, "item 1 1 1 1 ", "at", "col", "row", ";");
        stand(all, "line a 1;line h 1;item 1 1 1 1 at ", "a", "h");
        stand(all, "item 1 1 1 1 col ", "1");
        stand(all, "item 1 1 1 1 row ", "1");
        stand(all, "gap 1 1;", "cols", "width", "high", "line", "item", "gap");
    }

    /** Of all tokens those that may stand behind a text; the others are fault 2 there. */
    private static void stand(String[] all, String ahead, String... may) {
        for (String token : all) {
            boolean isTold = List.of(may).contains(token);
            GridTracks x = new GridTracks();
            Check.feed(x, ahead + token);
            boolean isHere = x.text() == -10 - ahead.length() && x.fault() == 2;
            check.holds("\"" + token + "\" behind \"" + ahead + "\"", isHere != isTold);
        }
    }

    /** Fault 4: "cols, gap, width, high for the second time; a LINE for the second time". */
    private static void theSecondTime() {
        String[] lines = {"cols auto;", "gap 0 0;", "width 0;", "high 0;"};
        for (String one : lines) {
            for (String other : lines) {
                String text = one + other;
                if (one.equals(other)) {
                    check.faulty(text, one.length(), 4);
                } else {
                    check.text(new GridTracks(), text, 2, 0);
                    check.faulty(text + " " + one, text.length() + 1, 4);
                }
            }
        }
        for (char v = 'a'; v <= 'h'; v++) {
            check.faulty("line " + v + " 0;line " + v + " 0;", 14, 4);
        }
        check.text(new GridTracks(), "line a 0;line b 0;", 2, 0);
        check.text(new GridTracks(), "cols auto;item 1 1 0 0;item 1 1 0 0;", 3, 0);
        theSecondTimeIsOfOneText();
    }

    /** A text begins anew, whether the one ahead of it was taken or not. */
    private static void theSecondTimeIsOfOneText() {
        String text = "cols auto;gap 1 2;width 3;high 4;line a 1;line h 0;item 1 1 5 6 at h row 7;";
        GridTracks x = new GridTracks();
        check.text(x, text, 7, 0);
        check.text(x, text, 7, 0);
        check.text(x, text + "$", -10 - text.length(), 1);
        check.text(x, text, 7, 0);
    }

    /** Fault 4: "a second pin of COLUMNS (at, col), of ROWS (each: its NAME ..)"; one of each may be, in any order. */
    private static void theSecondPin() {
        String ahead = "cols auto;line a 0;item 1 1 0 0 ";
        String[] pins = {"at a ", "col 0 ", "row 0 "};
        for (String one : pins) {
            check.text(new GridTracks(), ahead + one + ";", 3, 0);
            for (String other : pins) {
                boolean isRow = one.startsWith("row");
                if (isRow == other.startsWith("row")) {
                    check.faulty(ahead + one + other + ";", (ahead + one).length(), 4);
                } else {
                    check.text(new GridTracks(), ahead + one + other + ";", 3, 0);
                    for (String third : pins) {
                        check.faulty(ahead + one + other + third + ";", (ahead + one + other).length(), 4);
                    }
                }
            }
        }
    }

    /** "at: the first COLUMN by a LINE told so far"; fault 4, "at of a LINE that is not told (its V)". */
    private static void atOfALineToldSoFar() {
        String item = "item 1 1 0 0 at c;";
        check.due("item(0, 4)", check.told("line c 1;" + item + "cols auto auto;").item(0, 4), 1);
        check.due("item(0, 4)", check.told("line c 0;" + item + "cols auto auto;").item(0, 4), 0);
        check.faulty(item + "line c 1;cols auto auto;", 16, 4);
        check.faulty("line d 1;" + item + "cols auto auto;", 25, 4);
        check.faulty("line c 2;" + item + "cols auto auto;", 42, 6);
        GridTracks x = check.told("cols auto;line c 0;");
        check.text(x, "cols auto;" + item, -10 - 26, 4);
    }

    /** Fault 5: "the 11th item (its NAME)". */
    private static void theEleventhItem() {
        String ten = "item 1 1 0 0;".repeat(10);
        check.text(new GridTracks(), ten + "cols auto;", 11, 0);
        check.faulty(ten + "item$", 130, 5);
        check.faulty(ten + "cols auto;item 1 1 0 0;", 140, 5);
        check.faulty(ten + "items", 130, 2);
    }

    /** Fault 5: "a track by which there would be more than 6 COLUMNS (with all repeats: the ; of its line)". */
    private static void tracksTooMany() {
        check.faulty("cols repeat 6 auto auto ;", 24, 5);
        check.faulty("cols repeat 6 auto auto", 23, 2);
        check.faulty("cols auto auto auto auto auto auto auto ;", 40, 5);
        check.faulty("cols auto auto auto auto auto auto auto x;", 40, 2);
        check.faulty("cols auto auto auto auto auto auto flex 0;", 40, 3);
        check.faulty("cols auto auto auto auto auto auto auto $;", 40, 1);
    }

    /** Fault 6, "Behind all (the length)": by columns, without pins, too, by rows, a line. */
    private static void notAllInTheGrid() {
        String[] out = {"item 3 1 0 0;", "item 3 1 0 0 row 0;", "item 2 1 0 0 col 1;", "item 1 1 0 0 col 2;", "item 1 1 0 0 col 2 row 0;",
            "item 1 2 0 0 row 11;", "item 1 4 0 0 col 0 row 9;", "line a 3;", "line h 6;"};
        String[] in = {"item 2 1 0 0;", "item 2 1 0 0 row 0;", "item 2 1 0 0 col 0;", "item 1 1 0 0 col 1;", "item 1 1 0 0 col 1 row 0;",
            "item 1 2 0 0 row 10;", "item 1 4 0 0 col 0 row 8;", "line a 2;", "line h 2;"};
        for (int k = 0; k < out.length; k++) {
            check.faulty("cols auto auto;" + out[k], 15 + out[k].length(), 6);
            check.faulty(out[k] + "cols auto auto;  ", 17 + out[k].length(), 6);
            check.faulty(out[k], out[k].length(), 6);
            check.text(new GridTracks(), "cols auto auto;" + in[k], 2, 0);
            check.text(new GridTracks(), in[k] + "cols auto auto;  ", 2, 0);
        }
        String ten = "cols auto;" + "item 1 1 0 0;".repeat(9) + "item 2 1 0 0;";
        check.faulty(ten, ten.length(), 6);
    }
}
