/** Promise 5: what a drawing sends. Each text sent is written out from the document's words. */
public final class DrawTest {
    private static Sitting drawn(int columns, int rows, String typed) {
        Sitting s = new Sitting(columns, rows);
        s.type(typed);
        s.draw();
        return s;
    }

    private static void firstAndFull() {
        Sitting s = new Sitting(10, 4);
        Check.due("the first one", s.draw(), "^[0m^[2J^[4;1H^[0;7m1:1       ^[1;1H");
        Check.due("nothing is new", s.draw(), "");
        Check.due("bytes", s.x.draw(), 0);
        s.type(Sitting.REDRAW);
        Check.due("12: a full one", s.draw(), "^[0m^[2J^[4;1H^[0;7m1:1       ^[1;1H");
        Check.due("only once", s.draw(), "");
    }

    private static void blankScreens() {
        int[][] sizes = {{3, 8}, {1, 1}, {24, 1}, {3, 1}};
        for (int[] size : sizes) {
            Sitting s = new Sitting(size[0], size[1]);
            s.type("abc\rdef");
            Check.due("a BLANK screen", s.draw(), "^[0m^[2J");
            Check.due("its place", s.place(), "0,0,0,0");
            s.type("g");
            Check.due("nothing is new on it", s.draw(), "");
            s.type(Sitting.REDRAW);
            Check.due("12", s.draw(), "^[0m^[2J");
            Check.due("TOP is kept", s.x.state(5), 0);
        }
        Check.due("4 columns and 2 rows are no BLANK one", drawn(4, 2, "a").row(0), "a   ");
    }

    private static void smallChanges() {
        Sitting s = drawn(10, 4, "hello");
        s.type("x");
        Check.due("one character", s.draw(), "^[0mx^[4;3H^[0;7m7^[1;7H");
        s.type(Sitting.LEFT);
        Check.due("the status alone", s.draw(), "^[4;3H6^[1;6H");
        s.type(Sitting.HOME + Sitting.DELETE);
        Check.due("up to the last one that is new", s.draw(), "\r^[0mellox ^[4;3H^[0;7m1^[1;1H");
        s.type(Sitting.RIGHT + Sitting.RIGHT + Sitting.RIGHT + "\u4e2d");
        Check.due("ESC [ n C to a place farther right", s.draw(), "^[3C^[0m\u4e2dox^[4;3H^[0;7m6^[1;6H");
        s.type(Sitting.HOME);
        Check.due("to column 0", s.draw(), "^[4;3H1^[1;1H");
    }

    private static void placesMadeRight() {
        Sitting s = drawn(8, 5, "a\rb\rc\rd" + Sitting.HOME);
        Check.due("the place", s.place(), "3,0,0,1");
        s.type("z");
        Check.due("the status in the next row's column 2", s.draw(), "^[0mzd^[5;3H^[0;7m2^[4;2H");
        s.type(Sitting.HOME);
        Check.due("column 0 by ESC [ r ; c H from another row", s.draw(), "^[5;3H1^[4;1H");
        s = drawn(8, 3, "ab");
        s.type(Sitting.MARK + Sitting.HOME);
        Check.due("13 to column 0 of the same row", s.draw(), "\r^[0;4mab^[3;3H^[0;7m1^[1;1H");
        s.type("\033\033" + Sitting.RIGHT);
        Check.due("ESC [ C for 1", s.draw(), "^[0mab^[3;3H^[0;7m2^[1;2H");
        s.type("x");
        Check.due("from there", s.draw(), "^[0mxb^[3;3H^[0;7m3^[1;3H");
    }

    private static void nextRowBy1310() {
        Sitting s = new Sitting(4, 3);
        s.type("abcdef");
        Check.due("13, 10 from the margin", s.draw(), "^[0m^[2Jabcd\r\nef\r\n^[0;7m1:3*^[2;3H");
        s.type(Sitting.HOME);
        Check.due("the next row, but not its column 0", s.draw(), "^[3;3H1^[1;1H");
        s.type(Sitting.MARK + Sitting.RIGHT);
        Check.due("lit, then the status", s.draw(), "^[0;4ma^[3;3H^[0;7m2^[1;2H");
    }

    private static void fromTheMargin() {
        Sitting s = drawn(4, 2, "abc");
        Check.due("the status fills its row", s.row(1), "1:4*");
        s.type("d" + Sitting.LEFT);
        Check.due("the last column", s.draw(), "^[0md^[1;4H");
        Check.due("not at the margin then", s.place(), "0,3,0,0");
        s.type(Sitting.LEFT + Sitting.LEFT + Sitting.LEFT + Sitting.MARK + Sitting.END);
        s.draw();
        Check.due("the END of a full row is in the next one", s.x.state(5), 1);
        Check.due("at 0", s.place(), "0,0,0,1");
        s = drawn(5, 2, "abcde" + Sitting.HOME);
        s.type(Sitting.MARK + Sitting.RIGHT + Sitting.RIGHT + Sitting.RIGHT + Sitting.RIGHT);
        Check.due("four lit ones", s.draw(), "^[0;4mabcd^[2;3H^[0;7m5^[1;5H");
    }

    private static void erasing() {
        Sitting s = drawn(12, 3, "abcdefgh" + Sitting.HOME + Sitting.MARK + Sitting.END);
        Check.due("lit", s.looks(0), "222222220000");
        s.type(Sitting.CUT);
        Check.due("ESC [ K from column 0", s.draw(), "\r^[K^[3;3H1^[1;1H");
        s = drawn(12, 3, "abcd" + Sitting.HOME);
        s.type(Sitting.DELETE + Sitting.DELETE + Sitting.DELETE);
        Check.due("three blanks are sent", s.draw(), "^[0md   \r");
        s = drawn(12, 3, "abcdx" + Sitting.HOME);
        s.type(Sitting.DELETE + Sitting.DELETE + Sitting.DELETE + Sitting.DELETE);
        Check.due("four are erased", s.draw(), "^[0mx^[K\r");
        s = drawn(12, 3, "abcde" + Sitting.LEFT + Sitting.LEFT + Sitting.LEFT);
        s.type(Sitting.DELETE + Sitting.DELETE + Sitting.DELETE);
        Check.due("blanks behind what stays", s.draw(), "^[0m   ^[1;3H");
        s = drawn(12, 3, "abcd     " + Sitting.HOME);
        Check.due("blanks typed are BLANK", s.row(0), "abcd        ");
        s.type(Sitting.DELETE + Sitting.DELETE + Sitting.DELETE + Sitting.DELETE);
        Check.due("and are erased", s.draw(), "^[K");
    }

    private static void erasingInTheMiddle() {
        Sitting s = drawn(12, 3, "abcdefgh" + Sitting.HOME + Sitting.RIGHT + Sitting.RIGHT);
        s.type(Sitting.MARK + Sitting.END + Sitting.CUT);
        Check.due("ESC [ K at the place", s.draw(), "^[K");
        s.type(Sitting.UNDO);
        Check.due("back", s.draw(), "^[0mcdefgh^[3;3H^[0;7m9^[1;9H");
        s.type(Sitting.HOME + Sitting.RIGHT + Sitting.MARK + Sitting.END + Sitting.LEFT + Sitting.CUT);
        Check.due("one sent, then ESC [ K", s.draw(), "^[1;2H^[0mh^[K^[3;3H^[0;7m2^[1;2H");
    }

    private static void wideOnes() {
        Sitting s = new Sitting(5, 3);
        s.type("a\u4e2db\u4e2d");
        Check.due("a wide one that has no two cells begins a row", s.draw(),
                "^[0m^[2Ja\u4e2db\r\n\u4e2d\r\n^[0;7m1:3* ^[2;3H");
        s.type(Sitting.HOME + Sitting.DELETE);
        Check.due("halves written over", s.draw(), "^[1;1H^[0m\u4e2db\u4e2d\r\n  ^[3;3H^[0;7m1^[1;1H");
        Check.due("row 0", s.row(0), "\u4e2d_b\u4e2d_");
        Check.due("row 1", s.row(1), "     ");
        s.type("x");
        s.draw();
        Check.due("row 0 then", s.row(0), "x\u4e2d_b ");
        Check.due("row 1 then", s.row(1), "\u4e2d_   ");
    }

    private static void marksSent() {
        Sitting s = new Sitting(6, 3);
        s.type("\u0301a\u0302\u0303\u0304");
        Check.due("what begins with a MARK has its place sent", s.draw(),
                "^[0m^[2J^[1;1H\u0301a\u0302\u0303^[1;3H\u0304^[3;1H^[0;7m1:4*  ^[1;4H");
        Check.due("a MARK by itself", s.x.cell(0, 0), 0x301);
        Check.due("with two", s.x.cell(0, 1), 'a' + 65536 * 3 + 8388608 * 4);
        Check.due("the third by itself", s.x.cell(0, 2), 0x304);
        s = new Sitting(4, 2);
        s.type("ab\u4e2d\u0301" + Sitting.LEFT);
        Check.due("a MARK of a wide one at the margin", s.draw(), "^[0m^[2Jab\u4e2d\u0301\r\n^[0;7m1:3*^[1;3H");
        Check.due("joins its first cell", s.x.cell(0, 2), 0x4e2d + 65536 * 2);
        Check.due("and not its second", s.x.cell(0, 3), 0);
        s.type(Sitting.MARK + Sitting.HOME);
        Check.due("the place comes ahead of the look", s.draw(), "\r^[0;4mab^[2;3H^[0;7m1^[1;1H");
        s = drawn(6, 2, "\u0301" + Sitting.HOME);
        s.type(Sitting.MARK + Sitting.RIGHT);
        Check.due("a place for a MARK, also when it is right", s.draw(), "^[1;1H^[0;4m\u0301^[2;3H^[0;7m2^[1;2H");
    }

    private static void topFollows() {
        Sitting s = drawn(8, 3, "a\rb");
        Check.due("two rows have room", s.x.state(5), 0);
        s.type("\rc");
        s.draw();
        Check.due("the cursor's row is the last one", s.x.state(5), 1);
        s.type(Sitting.UP);
        s.draw();
        Check.due("TOP is kept", s.x.state(5) + s.row(0), "1b       ");
        s.type(Sitting.UP);
        Check.due("not before the drawing", s.x.state(5), 1);
        s.draw();
        Check.due("the cursor's row is the first one", s.x.state(5) + s.row(0), "0a       ");
        s.type(Sitting.DOWN + Sitting.DOWN);
        s.x.size(3, 3);
        s.draw();
        Check.due("a BLANK screen keeps TOP", s.x.state(5), 0);
        s.x.size(8, 2);
        s.draw();
        Check.due("one row for the text", s.x.state(5) + s.row(0), "2c       ");
    }

    private static void statusRow() {
        Check.due("line and column", drawn(10, 3, "a\r\rbcd").row(2), "3:4*      ");
        Sitting s = new Sitting(10, 3);
        s.type("a" + Sitting.UNDO);
        s.draw();
        Check.due("no change to undo", s.row(2), "1:1       ");
        Check.due("the column of the layout's row", drawn(5, 3, "abcdefg").row(2), "1:3* ");
        Check.due("a column of two digits", drawn(24, 3, "abcdefghijklmno").row(2).trim(), "1:16*");
        s = new Sitting(4, 4);
        for (int i = 0; i < 120; i++) {
            s.type("\r");
        }
        s.draw();
        Check.due("as much as there is room for", s.row(3), "121:");
        s.x.size(6, 4);
        s.draw();
        Check.due("all of it", s.row(3), "121:1*");
        Check.due("its look", s.looks(3), "111111");
    }

    private static void tabs() {
        Sitting s = drawn(10, 4, "a\tb\tc\td");
        Check.due("row 0", s.row(0), "a   b   c ");
        Check.due("a TAB to the row's end", s.row(1), "d         ");
        s.type(Sitting.HOME + Sitting.MARK + Sitting.END);
        s.draw();
        Check.due("looks of TABS", s.looks(0) + s.looks(1), "22222222222000000000");
        s = drawn(8, 4, "abcdefgh\ti");
        Check.due("a TAB without a column begins a row", s.row(1), "    i   ");
        s = drawn(8, 4, "abcd\ti");
        Check.due("a TAB at a multiple of 4", s.row(0) + s.row(1), "abcd    i       ");
    }

    public static void main(String[] args) {
        firstAndFull();
        blankScreens();
        smallChanges();
        placesMadeRight();
        nextRowBy1310();
        fromTheMargin();
        erasing();
        erasingInTheMiddle();
        wideOnes();
        marksSent();
        topFollows();
        statusRow();
        tabs();
        Check.end();
    }
}
