/** Terms, the screen: its sizes, TOP, the status, the cells' numbers and LOOKS, each at its boundary. */
public final class ScreenEdgesTest {
    /** "With W less than 4 or H less than 2 all of it is BLANK, and the cursor is at 0, 0." */
    private static void smallScreens() {
        for (int columns = 1; columns <= 5; columns++) {
            for (int rows = 1; rows <= 3; rows++) {
                boolean blank = columns < 4 || rows < 2;
                Sitting s = new Sitting(columns, rows);
                s.type("a" + Sitting.MARK + "b" + Sitting.MARK + Sitting.HOME + Sitting.RIGHT);
                s.draw();
                String told = columns + " columns and " + rows + " rows: ";
                Check.due(told + "row 0", s.row(0).trim(), blank ? "" : "ab");
                Check.due(told + "look", s.x.look(0, 1), columns == 1 ? -1 : blank ? 0 : 2);
                Check.due(told + "the last row", s.row(rows - 1).trim(), blank ? "" : "1:2*");
                Check.due(told + "its look", s.x.look(rows - 1, 0), blank ? 0 : 1);
                Check.due(told + "the place", s.x.terminal(0) + "," + s.x.terminal(1), blank ? "0,0" : "0,1");
            }
        }
    }

    /** The same of a screen that becomes small, where the cursor was elsewhere in the drawing ahead. */
    private static void screensThatBecomeSmall() {
        int[][] small = {{3, 8}, {24, 1}, {1, 1}};
        for (int[] size : small) {
            Sitting s = new Sitting(6, 5);
            s.type("a\rb\rcd");
            s.draw();
            Check.due("the place ahead", s.place(), "2,2,0,1");
            s.x.size(size[0], size[1]);
            String told = size[0] + " columns and " + size[1] + " rows: ";
            Check.due(told + "nothing but a blank screen is sent", s.draw(), "^[0m^[2J");
            Check.due(told + "the place", s.place(), "0,0,0,0");
            Check.due(told + "the next drawing", s.draw(), "");
            s.x.size(6, 5);
            s.draw();
            Check.due(told + "the place behind", s.place(), "2,2,0,1");
        }
    }

    /** The rows 0 .. H - 2 show the layout's rows from TOP on, "BLANK behind the last one". */
    private static void rowsShown() {
        Sitting s = new Sitting(4, 4);
        s.type("a\rb");
        s.draw();
        Check.due("two of three", s.row(0) + s.row(1) + s.row(2), "a   b       ");
        s.type("\rc");
        s.draw();
        Check.due("three of three", s.row(0) + s.row(1) + s.row(2), "a   b   c   ");
        s.type("\rd");
        s.draw();
        Check.due("four of three", s.row(0) + s.row(1) + s.row(2), "b   c   d   ");
    }

    /** "when the cursor's row is less, it becomes that, and when it is TOP + H - 1 or more, ... row - (H - 2)" */
    private static void top() {
        Sitting s = new Sitting(6, 4);
        s.type("\r".repeat(9) + Sitting.UP.repeat(4));
        // The cursor goes over the layout's rows 5, then to each of these; three rows show.
        int[] rows = {5, 6, 7, 8, 7, 6, 5, 4, 6, 3, 5, 6, 9, 0, 1, 2, 3};
        int[] due = {3, 4, 5, 6, 6, 6, 5, 4, 4, 3, 3, 4, 7, 0, 0, 0, 1};
        for (int i = 0; i < rows.length; i++) {
            int by = rows[i] - s.cursor();
            s.type((by < 0 ? Sitting.UP : Sitting.DOWN).repeat(Math.abs(by)));
            Check.due("TOP ahead of drawing " + i, s.x.state(5), i == 0 ? 0 : due[i - 1]);
            s.draw();
            Check.due("TOP of drawing " + i, s.x.state(5), due[i]);
            Check.due("the cursor's row on the screen of drawing " + i, s.x.terminal(0), rows[i] - due[i]);
        }
    }

    /** A BLANK screen's drawing leaves TOP; so does a new size; the next drawing follows the cursor. */
    private static void topOfBlankScreens() {
        int[][] blank = {{3, 8}, {24, 1}, {1, 1}};
        for (int[] size : blank) {
            Sitting s = new Sitting(6, 3);
            s.type("\r".repeat(6));
            s.draw();
            Check.due("TOP", s.x.state(5), 5);
            s.x.size(size[0], size[1]);
            s.type(Sitting.LEFT.repeat(6));
            s.draw();
            Check.due("TOP is kept by a BLANK screen", s.x.state(5), 5);
            s.x.size(4, 2);
            Check.due("TOP is kept by a new size", s.x.state(5), 5);
            s.draw();
            Check.due("TOP follows the cursor again", s.x.state(5), 0);
        }
        Sitting s = new Sitting(6, 2);
        s.type("\r");
        s.draw();
        Check.due("one row: TOP is the cursor's row", s.x.state(5), 1);
    }

    private static void status(int columns, String typed, String due) {
        Sitting s = new Sitting(columns, 2);
        s.type(typed);
        s.draw();
        Check.due("the status in " + columns, s.row(1), due);
        Check.due("its looks", s.looks(1), "1".repeat(columns));
    }

    /** "the text's line (from 1) of the cursor, ":", and its column (from 1) ... "*" ... then blanks" */
    private static void statusRow() {
        status(5, "", "1:1  ");
        status(5, "a", "1:2* ");
        status(5, "a" + Sitting.UNDO, "1:1  ");
        status(5, "abcd", "1:5* ");
        status(5, "abcde", "1:1* ");
        status(12, "a".repeat(8), "1:9*        ");
        status(12, "a".repeat(9), "1:10*       ");
        status(5, "\r".repeat(8), "9:1* ");
        status(24, "a".repeat(23), "1:24*" + " ".repeat(19));
        status(24, "a".repeat(24), "1:1*" + " ".repeat(20));
        status(24, "\r".repeat(100) + "a".repeat(20) + Sitting.UNDO.repeat(12), "101:9" + " ".repeat(19));
        status(4, "\u4e2d", "1:3*");
        status(12, "\t", "1:5*        ");
    }

    /** "from the left as much as there is room for" */
    private static void statusWithoutRoom() {
        status(4, "abc", "1:4*");
        status(4, "\r".repeat(9), "10:1");
        status(5, "\r".repeat(9), "10:1*");
        status(6, "\r".repeat(9), "10:1* ");
        status(4, "\r".repeat(98), "99:1");
        status(4, "\r".repeat(99), "100:");
        status(5, "\r".repeat(99), "100:1");
        status(6, "\r".repeat(99), "100:1*");
        status(4, "\r".repeat(200), "201:");
    }

    /** "its character + 65536 * (its first MARK - 767) + 8388608 * (its second MARK - 767)" */
    private static void numbersOfCells() {
        int[] marks = {768, 769, 878, 879};
        int[] bearers = {32, 'a', 160, 0x4e2d, 65535};
        for (int bearer : bearers) {
            for (int first : marks) {
                Sitting s = new Sitting(6, 2);
                s.type("" + (char) bearer + (char) first);
                s.draw();
                Check.due(bearer + " with " + first, s.x.cell(0, 0), bearer + 65536 * (first - 767));
                for (int second : marks) {
                    s = new Sitting(6, 2);
                    s.type("" + (char) bearer + (char) first + (char) second);
                    s.draw();
                    Check.due(bearer + " with " + first + " and " + second, s.x.cell(0, 0),
                            bearer + 65536 * (first - 767) + 8388608 * (second - 767));
                }
            }
        }
    }

    private static String looks(String typed) {
        Sitting s = new Sitting(6, 4);
        s.type(typed);
        s.draw();
        return s.looks(0) + "/" + s.looks(1) + "/" + s.looks(2) + "/" + s.looks(3);
    }

    /** "2 for the cells of clusters (TABS and ENDS too) between the marked place and the cursor" */
    private static void marked() {
        String none = "000000/000000/000000/111111";
        Check.due("no marked place", looks("ab\rc"), none);
        Check.due("nothing between", looks("ab\rc" + Sitting.MARK), none);
        Check.due("one cluster", looks("ab\rc" + Sitting.MARK + Sitting.LEFT), "000000/200000/000000/111111");
        Check.due("an END", looks("ab\rc" + Sitting.HOME + Sitting.MARK + Sitting.LEFT), "002000/000000/000000/111111");
        Check.due("the text's end is never between", looks(Sitting.MARK + "\r" + Sitting.MARK + Sitting.UP),
                "200000/000000/000000/111111");
        Check.due("a TAB", looks("a\t" + Sitting.MARK + Sitting.LEFT), "022200/000000/000000/111111");
        Check.due("a TAB up to the row's end", looks("abcd\t" + Sitting.MARK + Sitting.LEFT),
                "000022/000000/000000/111111");
        Check.due("a wide one", looks("a\u4e2d" + Sitting.MARK + Sitting.LEFT), "022000/000000/000000/111111");
        Check.due("a row's unused cell", looks("abcde\u4e2d" + Sitting.MARK + Sitting.HOME),
                "222220/220000/000000/111111");
        Check.due("an END in a row by itself", looks("abcdef\r" + Sitting.MARK + Sitting.LEFT),
                "000000/200000/000000/111111");
    }

    /** What lies between, but outside the rows that show, lights nothing. */
    private static void markedOutside() {
        Sitting s = new Sitting(4, 3);
        s.type("a\rb\rc\rd" + Sitting.MARK + Sitting.UP.repeat(3));
        s.draw();
        Check.due("behind the last row", s.looks(0) + s.looks(1) + s.looks(2), "020022001111");
        s.type(Sitting.MARK + Sitting.DOWN.repeat(3));
        s.draw();
        Check.due("ahead of the first row", s.looks(0) + s.looks(1) + s.looks(2), "220020001111");
    }

    public static void main(String[] args) {
        smallScreens();
        screensThatBecomeSmall();
        rowsShown();
        top();
        topOfBlankScreens();
        statusRow();
        statusWithoutRoom();
        numbersOfCells();
        marked();
        markedOutside();
        Check.end();
    }
}
