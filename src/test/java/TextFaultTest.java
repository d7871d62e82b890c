/** Promises 4 and 5: the faults of texts, each with its place. */
public final class TextFaultTest {
    private static final Check check = new Check("TextFaultTest");

    public static void main(String[] args) {
        noToken();
        notThere();
        outOfBounds();
        notAgain();
        tooMany();
        notInTheGrid();
        theFirstMet();
        check.end();
    }

    private static void noToken() {
        check.faulty("$", 0, 1);
        check.faulty("  Cols auto;", 2, 1);
        check.faulty("cols\tauto;", 4, 1);
        check.faulty("cols auto;\n", 10, 1);
        check.faulty("gap 1,2;", 5, 1);
        check.faulty("gap -1 2;", 4, 1);
        check.faulty("gap 0001 2;", 4, 1);
        check.faulty("cols 1234;", 5, 1);
        check.faulty("cols auto 99999999999999999999;", 10, 1);
        check.faulty("high 5" + (char) 127, 6, 1);
        check.faulty("high 5" + (char) 0, 6, 1);
        check.faulty("`", 0, 1);
        check.faulty("{", 0, 1);
        check.faulty("high 5:", 6, 1);
        check.faulty("high 5/", 6, 1);
        check.text(new GridTracks(), "gap 001 020;", 1, 0);
    }

    private static void notThere() {
        check.faulty(";", 0, 2);
        check.faulty(" 12", 1, 2);
        check.faulty("col", 0, 2);
        check.faulty("colss auto;", 0, 2);
        check.faulty("bols auto;", 0, 2);
        check.faulty("colz auto;", 0, 2);
        check.faulty("az", 0, 2);
        check.faulty("z", 0, 2);
        check.faulty("auto;", 0, 2);
        check.faulty("cols", 4, 2);
        check.faulty("cols   ", 7, 2);
        check.faulty("cols auto", 9, 2);
        check.faulty("cols auto auto  ", 16, 2);
        check.faulty("cols ;", 5, 2);
        check.faulty("cols 3 auto;", 5, 2);
        check.faulty("cols repeat auto;", 12, 2);
        check.faulty("cols repeat 2 repeat 2 auto;", 14, 2);
        check.faulty("cols auto repeat 2;", 10, 2);
        check.faulty("cols repeat 2;", 13, 2);
        check.faulty("cols repeat 2", 13, 2);
        check.faulty("cols auto 3;", 10, 2);
        check.faulty("cols fix;", 8, 2);
        check.faulty("cols fix auto;", 9, 2);
        check.faulty("cols flex", 9, 2);
        check.faulty("cols fixx 3;", 5, 2);
        check.faulty("gap;", 3, 2);
        check.faulty("gap 1;", 5, 2);
        check.faulty("gap 1 2 3;", 8, 2);
        check.faulty("gap 1 2", 7, 2);
        check.faulty("width ;", 6, 2);
        check.faulty("width 3 4;", 8, 2);
        check.faulty("width a;", 6, 2);
        check.faulty("high;", 4, 2);
        check.faulty("high 3 high 4;", 7, 2);
        check.faulty("line i 0;", 5, 2);
        check.faulty("line ab 0;", 5, 2);
        check.faulty("line 0 a;", 5, 2);
        check.faulty("line a;", 6, 2);
        check.faulty("line a b;", 7, 2);
        check.faulty("line a 0 1;", 9, 2);
        check.faulty("line a 0", 8, 2);
        check.faulty("item 1 1 1;", 10, 2);
        check.faulty("item 1 1 1 1 1;", 13, 2);
        check.faulty("item 1 1 1 1", 12, 2);
        check.faulty("item 1 1 1 1 fix 1;", 13, 2);
        check.faulty("item 1 1 1 1 at 1;", 16, 2);
        check.faulty("item 1 1 1 1 at i;", 16, 2);
        check.faulty("item 1 1 1 1 at;", 15, 2);
        check.faulty("line a 0; item 1 1 1 1 at aa;", 26, 2);
        check.faulty("item 1 1 1 1 col a;", 17, 2);
        check.faulty("item 1 1 1 1 row;", 16, 2);
        check.faulty("item 1 1 1 1 row 1 col 1 1;", 25, 2);
        check.faulty("item 1 1 1 1 row 1 col 1 cols", 25, 2);
        check.faulty("item 1 1 1 1 row 1 col 1", 24, 2);
    }

    private static void outOfBounds() {
        check.faulty("cols repeat 0 auto;", 12, 3);
        check.faulty("cols repeat 7 auto;", 12, 3);
        check.faulty("cols fix 100;", 9, 3);
        check.faulty("cols flex 0;", 10, 3);
        check.faulty("cols flex 10;", 10, 3);
        check.faulty("gap 21 0;", 4, 3);
        check.faulty("gap 20 21;", 7, 3);
        check.faulty("high 100;", 5, 3);
        check.faulty("line a 7;", 7, 3);
        check.faulty("item 0 1 1 1;", 5, 3);
        check.faulty("item 7 1 1 1;", 5, 3);
        check.faulty("item 1 0 1 1;", 7, 3);
        check.faulty("item 1 5 1 1;", 7, 3);
        check.faulty("item 1 1 100 1;", 9, 3);
        check.faulty("item 1 1 1 100;", 11, 3);
        check.faulty("item 1 1 1 1 col 6;", 17, 3);
        check.faulty("item 1 1 1 1 row 12;", 17, 3);
        check.text(new GridTracks(), "cols repeat 6 flex 9; gap 20 20; width 999; high 99; line a 6; item 6 4 99 99;"
            + " item 1 1 0 0 col 5 row 11;", 7, 0);
        check.text(new GridTracks(), "cols repeat 1 fix 0 flex 1; gap 0 0; width 0; high 0; line a 0; item 1 1 0 0 col 0 row 0;", 6, 0);
    }

    private static void notAgain() {
        check.faulty("cols auto; cols auto;", 11, 4);
        check.faulty("gap 1 1; gap 1 1;", 9, 4);
        check.faulty("width 1; width 1;", 9, 4);
        check.faulty("high 1; high 1;", 8, 4);
        check.faulty("gap 0 0; width 0; high 0; high;", 26, 4);
        check.faulty("line a 0; line b 0; line a 0;", 25, 4);
        check.faulty("item 1 1 1 1 col 0 col 0;", 19, 4);
        check.faulty("line a 0; item 1 1 1 1 col 0 at a;", 29, 4);
        check.faulty("line a 0; item 1 1 1 1 at a at a;", 28, 4);
        check.faulty("line a 0; item 1 1 1 1 at a col 0;", 28, 4);
        check.faulty("item 1 1 1 1 row 0 row 0;", 19, 4);
        check.faulty("item 1 1 1 1 row 0 col 0 row;", 25, 4);
        check.faulty("item 1 1 1 1 col 0 row 0 at z", 25, 4);
        check.faulty("item 1 1 1 1 at a;", 16, 4);
        check.faulty("cols auto; item 1 1 1 1 at a; line a 0;", 27, 4);
    }

    private static void tooMany() {
        String ten = "item 1 1 1 1;".repeat(10);
        check.text(new GridTracks(), "cols auto;" + ten, 11, 0);
        check.faulty("cols auto;" + ten + "item 1 1 1 1;", 140, 5);
        check.faulty(ten + " item", 131, 5);
        tooManyTracks();
    }

    /** Tracks too many are refused at the ; alone; what is wrong within them is met ahead of it. */
    private static void tooManyTracks() {
        String six = "cols auto auto auto auto auto auto";
        check.text(new GridTracks(), six + ";", 1, 0);
        check.faulty(six + " auto;", 39, 5);
        check.faulty(six + " fix 99 flex 9 ;", 49, 5);
        check.faulty(six + " auto; $", 39, 5);
        check.faulty(six + " auto; cols", 39, 5);
        check.faulty(six + " fix 100;", 39, 3);
        check.faulty(six + " flex 0;", 40, 3);
        check.faulty(six + " flux;", 35, 2);
        check.faulty(six + " fix", 38, 2);
        check.faulty(six + " fix;", 38, 2);
        check.faulty(six + " auto", 39, 2);
        check.faulty(six + " auto gap", 40, 2);
        check.faulty(six + " auto 1234;", 40, 1);
        check.faulty(six + " auto$;", 39, 1);
        check.faulty(six + " repeat 2;", 35, 2);
        check.faulty("cols flex2fix5fix5fix5fix5fix5fix", 33, 2);
        check.faulty("cols repeat 1 auto auto auto auto auto auto auto auto;", 53, 5);
        check.faulty("cols repeat 2 auto auto auto auto;", 33, 5);
        check.faulty("cols repeat 4 fix 1 auto ;gap", 25, 5);
        check.faulty("cols repeat 4 fix 1 auto gap", 25, 2);
        check.faulty("cols repeat 6 fix 1 fix 100;", 24, 3);
        check.faulty("cols repeat 6 " + "fix0".repeat(76) + ";", 318, 5);
        check.faulty("cols " + "fix0".repeat(78) + "  ;", 319, 5);
        check.faulty("cols " + "fix0".repeat(78) + "fix", 320, 2);
    }

    private static void notInTheGrid() {
        check.faulty("item 1 1 1 1;", 13, 6);
        check.faulty("item 1 1 1 1; ", 14, 6);
        check.faulty("cols auto auto; item 3 1 1 1;", 29, 6);
        check.faulty("cols auto auto; item 1 1 1 1 col 2;", 35, 6);
        check.faulty("cols auto auto; item 2 1 1 1 col 1;", 35, 6);
        check.faulty("cols auto auto; line a 2; item 1 1 1 1 at a;", 44, 6);
        check.faulty("cols auto auto; item 1 2 1 1 row 11;", 36, 6);
        check.faulty("cols auto auto; item 1 4 1 1 row 9;", 35, 6);
        check.faulty("cols auto auto; line a 3;", 25, 6);
        check.faulty("line h 1;", 9, 6);
        check.text(new GridTracks(), "cols auto auto; line h 2; item 2 4 1 1 col 0 row 8; item 1 1 1 1 col 1 row 11;", 4, 0);
    }

    private static void theFirstMet() {
        check.faulty("gap 21 $;", 4, 3);
        check.faulty("gap $ 21;", 4, 1);
        check.faulty("item 3 1 1 1; cols auto; gap 21 0;", 29, 3);
        check.faulty("line a 3; line a 9;", 15, 4);
        check.faulty("gap 1 1; gap 99", 9, 4);
        check.faulty("cols repeat 6 auto auto 1234;", 24, 1);
    }
}
