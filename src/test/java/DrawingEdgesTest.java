/** Terms, a drawing: what is sent at each boundary, written out from the document's words. */
public final class DrawingEdgesTest {
    private static Sitting drawn(int columns, int rows, String typed) {
        Sitting s = new Sitting(columns, rows);
        s.type(typed);
        s.draw();
        return s;
    }

    /** What is sent when more is typed behind a drawing. */
    private static String sentFor(int columns, String typed, String more) {
        Sitting s = drawn(columns, 3, typed);
        s.type(more);
        return s.draw();
    }

    private static void begins(String told, String sent, String due) {
        Check.due(told, sent.substring(0, Math.min(sent.length(), due.length())), due);
    }

    private static String cut(int count) {
        return Sitting.MARK + Sitting.RIGHT.repeat(count) + Sitting.CUT;
    }

    /** "With B - max(A, E) + 1 greater than 3", where E is A: what goes ends the row. */
    private static void erasingFromA() {
        String[] due = {"", "^[0m ^[1;2H", "^[0m  ^[1;2H", "^[0m   ^[1;2H", "^[K", "^[K", "^[K"};
        for (int count = 0; count < due.length; count++) {
            String typed = "x" + "abcdef".substring(0, count) + Sitting.HOME + Sitting.RIGHT;
            Check.due(count + " gone behind x", sentFor(12, typed, cut(count)), due[count]);
        }
    }

    /** The same where E is greater than A: something is sent ahead of what goes. */
    private static void erasingBehindE() {
        String[] due = {"^[0mz\r", "^[0mz \r", "^[0mz  \r", "^[0mz   \r", "^[0mz^[K\r", "^[0mz^[K\r"};
        for (int count = 0; count < due.length; count++) {
            String typed = "y" + "abcdef".substring(0, count) + Sitting.HOME;
            String more = Sitting.MARK + Sitting.END + Sitting.CUT + "z" + Sitting.LEFT;
            Check.due(count + " gone behind a new one", sentFor(12, typed, more), due[count]);
        }
    }

    /** The same where E is less than A: blanks that are there already lie ahead of what goes. */
    private static void erasingBehindBlanks() {
        String[] due = {"", "^[0m ^[1;4H", "^[0m  ^[1;4H", "^[0m   ^[1;4H", "^[K", "^[K"};
        for (int count = 0; count < due.length; count++) {
            String typed = "x  " + "abcdef".substring(0, count) + Sitting.LEFT.repeat(count);
            Check.due(count + " gone behind blanks", sentFor(12, typed, cut(count)), due[count]);
        }
    }

    /** What stays behind the erased columns' last one is BLANK already: B, not W, tells how many there are. */
    private static void erasingShortOfTheRow() {
        Check.due("three in the middle of a row", sentFor(24, "abc" + Sitting.HOME, cut(3)), "^[0m   \r");
        Check.due("three at its end", sentFor(8, "xxxxabc" + Sitting.LEFT.repeat(3), cut(3)), "^[0m   ^[1;5H");
        Check.due("four at its end", sentFor(8, "xxxabcd" + Sitting.LEFT.repeat(4), cut(4)), "^[K");
    }

    /** "the first column from which on the row should be BLANK in LOOK 0": blanks typed are, lit ones are not. */
    private static void blanksThatAreBlank() {
        String light = Sitting.MARK + Sitting.HOME;
        Check.due("four lit blanks", sentFor(12, "    ", light), "\r^[0;4m    ^[3;3H^[0;7m1^[1;1H");
        Check.due("four lit blanks go out", sentFor(12, "    " + light, "\033\033"), "^[K");
        Check.due("three lit blanks go out", sentFor(12, "   " + light, "\033\033"), "^[0m   \r");
        Check.due("a lit TAB of four goes out", sentFor(12, "\t" + light, "\033\033"), "^[K");
        Check.due("a lit TAB of three goes out", sentFor(12, "a\t" + Sitting.MARK + Sitting.LEFT, "\033\033"),
                "^[0m   ^[1;2H");
        Check.due("blanks in place of letters", sentFor(12, "abcd" + light, Sitting.CUT + "    "),
                "^[K^[3;3H5^[1;5H");
        Check.due("a blank with a MARK is not BLANK", sentFor(12, "abcd" + light, Sitting.CUT + "   \u0301 "),
                "^[0m   \u0301 ^[3;3H^[0;7m5^[1;5H");
    }

    /** "(W if none)": nothing is erased in a row that is full, nor in the status row. */
    private static void nothingBlank() {
        Check.due("a full row of 4", sentFor(4, "abcd" + Sitting.HOME, Sitting.MARK + Sitting.END), "^[0;4mabcd\r\n");
        Check.due("a full row of 5", sentFor(5, "abcde" + Sitting.HOME, Sitting.MARK + Sitting.END),
                "^[0;4mabcde\r\n");
        Sitting s = drawn(24, 2, "\r".repeat(99) + "a".repeat(9));
        Check.due("a long status", s.row(1).trim(), "100:10*");
        s.type(Sitting.HOME + Sitting.LEFT);
        Check.due("a shorter one, with the row erased", s.draw(), "\r^[K\r\n99:1*  ^[1;1H");
    }

    /** "ESC [ n C (ESC [ C for 1)" */
    private static void fartherRight() {
        for (int n = 0; n <= 22; n++) {
            String due = (n == 0 ? "" : n == 1 ? "^[C" : "^[" + n + "C") + "^[0mx^[3;";
            begins(n + " farther right", sentFor(24, "a".repeat(n) + Sitting.HOME, Sitting.END + "x"), due);
        }
    }

    /** The n of ESC [ n C is told from the place, which need not be column 0. */
    private static void fartherRightFrom() {
        for (int from = 0; from <= 4; from++) {
            for (int n = 1; n <= 12; n++) {
                String typed = "a".repeat(from + n) + Sitting.HOME + Sitting.RIGHT.repeat(from);
                String due = (n == 1 ? "^[C" : "^[" + n + "C") + "^[0mx^[3;";
                begins(n + " farther right than " + from, sentFor(24, typed, Sitting.END + "x"), due);
            }
        }
        String another = Sitting.HOME + Sitting.DELETE + "x" + Sitting.END;
        Check.due("the cursor at the place", sentFor(8, "a", another), "\r^[0mx");
        Check.due("the cursor 1 farther right", sentFor(8, "ab", another), "\r^[0mx^[C");
        Check.due("the cursor 2 farther right", sentFor(8, "abc", another), "\r^[0mx^[2C");
    }

    /** "column 0 of the same row: 13" */
    private static void columnZero() {
        Check.due("from column 0", sentFor(8, "", "x"), "^[0mx^[3;3H^[0;7m2*^[1;2H");
        Check.due("from column 1", sentFor(8, "a", Sitting.HOME + "x"), "\r^[0mxa^[1;2H");
        Check.due("from column 2", sentFor(8, "ab", Sitting.HOME + "x"), "\r^[0mxab^[3;3H^[0;7m2^[1;2H");
        Check.due("column 1 from column 2", sentFor(8, "ab", Sitting.LEFT + "x"), "^[1;2H^[0mxb^[1;3H");
    }

    /** "column 0 of the next row: 13, 10; otherwise ESC [ r ; c H" */
    private static void nextRow() {
        String[] moves = {Sitting.UP, "", Sitting.DOWN, Sitting.DOWN.repeat(2)};
        String[] due = {"^[1;1H^[0mxa^[5;1H^[0;7m1^[1;2H", "\r^[0mxb^[2;2H", "\r\n^[0mxc^[5;1H^[0;7m3^[3;2H",
            "^[4;1H^[0mxd\r\n^[0;7m4^[4;2H"};
        for (int i = 0; i < moves.length; i++) {
            Sitting s = drawn(8, 5, "a\rb\rc\rd" + Sitting.UP.repeat(2));
            Check.due("in the row of b", s.place(), "1,1,0,1");
            s.type(moves[i] + Sitting.HOME + "x");
            Check.due("column 0 of row " + i, s.draw(), due[i]);
        }
        Sitting s = drawn(8, 5, "a\rb\rc\rd" + Sitting.UP.repeat(2));
        s.type(Sitting.DOWN + "x");
        Check.due("column 1 of the next row", s.draw(), "^[3;2H^[0mx^[5;1H^[0;7m3:3^[3;3H");
    }

    /** Rows and columns are told from 1, in decimals. */
    private static void placesInDecimals() {
        for (int column = 0; column <= 23; column++) {
            Sitting s = drawn(24, 8, "a".repeat(column));
            Check.due("the cursor in column " + column, s.x.terminal(1), column);
            s.type(Sitting.REDRAW);
            String sent = s.draw();
            Check.due("its place", sent.endsWith("^[1;" + (column + 1) + "H"), true);
        }
        for (int row = 0; row <= 6; row++) {
            Sitting s = drawn(24, 8, "\r".repeat(row) + "a");
            s.type(Sitting.REDRAW);
            Check.due("the place in row " + row, s.draw().endsWith("^[" + (row + 1) + ";2H"), true);
        }
    }

    /** From the margin: no ESC [ n C, and no waiting for the next row. The status "100:" has no room for more. */
    private static void fromTheMargin() {
        Sitting s = drawn(4, 5, "\r".repeat(99));
        Check.due("the status", s.row(4) + " " + s.place(), "100: 3,0,0,1");
        s.type("abcd" + Sitting.LEFT);
        Check.due("the same place", s.draw(), "^[0mabcd^[4;4H");
        s = drawn(4, 5, "\r".repeat(99));
        s.type("abcd" + Sitting.LEFT.repeat(2));
        Check.due("one to the left", s.draw(), "^[0mabcd^[4;3H");
        s = drawn(4, 5, "\r".repeat(99));
        s.type("abcd" + Sitting.HOME);
        Check.due("column 0 of the same row", s.draw(), "^[0mabcd\r");
        s = drawn(4, 5, "\r".repeat(100) + Sitting.UP);
        s.type("abcd");
        Check.due("column 0 of the next row", s.draw(), "^[3;1H^[0mabcd\r\n");
    }

    /** "for one that begins with a MARK always by ESC [ r ; c H" */
    private static void marksByPlace() {
        Sitting s = new Sitting(12, 2);
        s.type("\u0301\u0302a\u0303\u0304\u0305\u0306b");
        Check.due("each by its place", s.draw(),
                "^[0m^[2J^[1;1H\u0301^[1;2H\u0302a\u0303\u0304^[1;4H\u0305^[1;5H\u0306b"
                + "\r\n^[0;7m1:7*        ^[1;7H");
        s = new Sitting(5, 3);
        s.type("abcde\u0301\u0302\u0303");
        Check.due("behind the margin", s.draw(), "^[0m^[2Jabcde\u0301\u0302^[2;1H\u0303\r\n^[0;7m1:2* ^[2;2H");
    }

    /** "the LOOK is made right when it is another" */
    private static void looksMadeRight() {
        Sitting s = drawn(8, 2, "abcd" + Sitting.LEFT + Sitting.MARK + Sitting.LEFT.repeat(2));
        Check.due("lit", s.looks(0), "02200000");
        s.type(Sitting.REDRAW);
        Check.due("0, 2, 0, 1", s.draw(), "^[0m^[2J\ra^[0;4mbc^[0md\r\n^[0;7m1:2*    ^[1;2H");
        s.type(Sitting.HOME);
        Check.due("2, 1", s.draw(), "\r^[0;4ma^[2;3H^[0;7m1^[1;1H");
    }

    /** "a full one ...: ESC [ 0 m, ESC [ 2 J first (the cells are blank then; the place stays)" */
    private static void fullOnes() {
        Sitting s = drawn(6, 3, "abc");
        s.type(Sitting.REDRAW);
        Check.due("the place stays", s.draw(), "^[0m^[2J\rabc^[3;1H^[0;7m1:4*  ^[1;4H");
        s.type(Sitting.MARK + Sitting.HOME + Sitting.REDRAW);
        Check.due("lit", s.draw(), "^[0m^[2J\r^[0;4mabc^[3;1H^[0;7m1:1*  ^[1;1H");
        s = drawn(6, 3, "\rabc");
        s.type(Sitting.REDRAW);
        Check.due("the place stays in the second row", s.draw(), "^[0m^[2J\rabc\r\n^[0;7m2:4*  ^[2;4H");
        s = drawn(6, 3, "");
        s.type("\014");
        Check.due("an empty text", s.draw(), "^[0m^[2J^[3;1H^[0;7m1:1   ^[1;1H");
    }

    /** "A DRAWING (of a BLANK screen, too)" */
    private static void blankOnes() {
        for (int columns = 1; columns <= 3; columns++) {
            Sitting s = drawn(8, 3, "abc\u4e2d");
            s.x.size(columns, 3);
            Check.due("a full one of " + columns, s.draw(), "^[0m^[2J");
            Check.due("blank", s.row(0) + s.row(2), " ".repeat(2 * columns));
            s.type("d");
            Check.due("not a full one", s.draw(), "");
            s.x.size(8, 3);
            Check.due("all comes back", s.draw(), "^[0m^[2Jabc\u4e2dd^[3;1H^[0;7m1:7*    ^[1;7H");
        }
    }

    /** "clusters from A to B (whole ones)" */
    private static void wholeClusters() {
        Sitting s = drawn(8, 3, "a\u4e2db" + Sitting.HOME);
        s.type(Sitting.RIGHT + Sitting.DELETE + "\u56fd" + Sitting.HOME);
        Check.due("one wide one by another", s.draw(), "^[C^[0m\u56fd\r");
        s.type(Sitting.DELETE);
        Check.due("one to the left", s.draw(), "\u56fdb \r");
        s.type("xy" + Sitting.RIGHT + Sitting.DELETE + Sitting.HOME);
        Check.due("narrow ones over halves", s.draw(), "xy\u56fd\r");
        s.type("\u4e2d" + Sitting.DELETE + Sitting.DELETE + Sitting.HOME);
        Check.due("a wide one over narrow ones", s.draw(), "\u4e2d\r");
        s.type(Sitting.RIGHT + "\u0301" + Sitting.HOME);
        Check.due("one with a MARK more", s.draw(), "\u4e2d\u0301\r");
    }

    /** "If A is the second cell of a wide one, it is 1 less (from there on)." No drawing finds such a terminal. */
    private static void secondCellFirst() {
        for (int column = 0; column <= 2; column++) {
            Inside painter = Inside.make("Painter", 6, 2);
            Inside shown = painter.part("display").part("grid");
            Inside wanted = Inside.make("Grid", 6, 2);
            wanted.call("put", 0, column, 0x4e2d, 0);
            wanted.call("put", 0, column + 1, 0, 0);
            shown.call("put", 0, column, 0x4e2d, 0);
            painter.call("paintRow", wanted, 0);
            StringBuilder sent = new StringBuilder();
            for (int k = 0; k < painter.number("count"); k++) {
                sent.append(' ').append(painter.call("byteAt", k));
            }
            String ahead = new String[] {"", " 27 91 67", " 27 91 50 67"}[column];
            Check.due("a wide one at " + column, sent.toString(), ahead + " 228 184 173");
            Check.due("its second cell", (Integer) shown.call("clusterAt", 0, column + 1), 0);
        }
    }

    /** "for each row, ascending ...; none: nothing is sent" */
    private static void rowsAscending() {
        Sitting s = drawn(6, 5, "a\rb\rc");
        s.type("x");
        Check.due("one row and the status", s.draw(), "^[0mx^[5;3H^[0;7m3^[3;3H");
        s = drawn(6, 5, "a\rb\rc");
        s.type(Sitting.UP.repeat(2) + Sitting.HOME + "\r");
        Check.due("all rows", s.draw(), "^[1;1H^[0m \r\na\r\nb\r\nc\r\n^[0;7m2:1^[2;1H");
        s = drawn(6, 5, "a\rb\rc");
        s.type(Sitting.LEFT + "d" + Sitting.LEFT + Sitting.UP.repeat(2) + "e");
        Check.due("the first row and the third", s.draw(), "^[1;1H^[0mea^[3;1Hdc^[5;1H^[0;7m1^[1;2H");
    }

    public static void main(String[] args) {
        erasingFromA();
        erasingBehindE();
        erasingBehindBlanks();
        erasingShortOfTheRow();
        blanksThatAreBlank();
        nothingBlank();
        fartherRight();
        fartherRightFrom();
        columnZero();
        nextRow();
        placesInDecimals();
        fromTheMargin();
        marksByPlace();
        looksMadeRight();
        fullOnes();
        blankOnes();
        wholeClusters();
        secondCellFirst();
        rowsAscending();
        Check.end();
    }
}
