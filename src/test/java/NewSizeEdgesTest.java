/** Terms, a new size, and promise 4: sizes at their limits, what stays and what becomes BLANK. */
public final class NewSizeEdgesTest {
    /** All that the calls that only ask answer. */
    private static String all(Sitting s) {
        StringBuilder told = new StringBuilder(s.text());
        for (int what = 0; what <= 7; what++) {
            told.append(' ').append(s.x.state(what));
        }
        told.append(' ').append(s.place());
        for (int row = 0; row < 8; row++) {
            told.append('/').append(s.row(row)).append(s.looks(row));
        }
        for (int k = 0; s.x.sent(k) >= 0; k++) {
            told.append(' ').append(s.x.sent(k));
        }
        return told.toString();
    }

    /** "false, and nothing is new, when columns or rows are not as said" */
    private static void refused() {
        int[] columns = {Integer.MIN_VALUE, -1, 0, 1, 2, 23, 24, 25, 26, Integer.MAX_VALUE};
        int[] rows = {Integer.MIN_VALUE, -1, 0, 1, 2, 7, 8, 9, 10, Integer.MAX_VALUE};
        for (int w : columns) {
            for (int h : rows) {
                boolean may = w >= 1 && w <= 24 && h >= 1 && h <= 8;
                Sitting s = new Sitting(6, 3);
                s.type("ab\u4e2d\r\r" + Sitting.MARK + Sitting.UP + "\033[");
                s.draw();
                String ahead = all(s);
                String told = "size(" + w + ", " + h + ")";
                Check.due(told, s.x.size(w, h), may);
                if (may) {
                    Check.due(told + ": the last cell", s.x.cell(h - 1, w - 1) >= 0, true);
                    Check.due(told + ": no more columns", s.x.cell(0, w), -1);
                    Check.due(told + ": no more rows", s.x.look(h, 0), -1);
                } else {
                    Check.due(told + ": nothing is new", all(s), ahead);
                    Check.due(told + ": no full drawing", s.draw(), "");
                }
            }
        }
    }

    /** "The sizes that there are already are a new size, too." */
    private static void sameSize() {
        Sitting s = new Sitting(6, 3);
        s.type("ab\u4e2d" + Sitting.MARK + Sitting.HOME);
        s.draw();
        Check.due("ahead", s.row(0) + s.looks(0) + " " + s.place(), "ab\u4e2d_  222200 0,0,0,1");
        s.type(Sitting.RIGHT);
        s.draw();
        Check.due("the same size", s.x.size(6, 3), true);
        Check.due("all cells stay", s.row(0) + s.looks(0) + s.row(2) + s.looks(2), "ab\u4e2d_  0222001:2*  111111");
        Check.due("the place", s.place(), "0,0,0,1");
        Check.due("a full drawing", s.draw(), "^[0m^[2Ja^[0;4mb\u4e2d^[3;1H^[0;7m1:2*  ^[1;2H");
        Check.due("only one", s.draw(), "");
    }

    /** "cells that are there in both stay, others are BLANK (also the first cell of a wide one ...)" */
    private static void columnsThatGo() {
        String[] due = {" 0", "\u4e2d_22", "\u4e2d_a222", "\u4e2d_a 2220", "\u4e2d_a\u4e2d_22222",
            "\u4e2d_a\u4e2d_ 222220", "\u4e2d_a\u4e2d_  2222200"};
        for (int columns = 1; columns <= 7; columns++) {
            Sitting s = new Sitting(6, 2);
            s.type("\u4e2da\u4e2d" + Sitting.MARK + Sitting.HOME);
            s.draw();
            s.x.size(columns, 2);
            Check.due("row 0 in " + columns, s.row(0) + s.looks(0), due[columns - 1]);
            Check.due("the status in " + columns, s.row(1) + s.looks(1),
                    "1:1*   ".substring(0, columns) + "1111110".substring(0, columns));
        }
    }

    /** A wide one with MARKS is halved like others; what comes back later is BLANK. */
    private static void halved() {
        Sitting s = new Sitting(6, 3);
        s.type("a\u4e2d\u0301\u0302");
        s.draw();
        s.x.size(3, 3);
        Check.due("whole", s.x.cell(0, 1), 0x4e2d + 65536 * 2 + 8388608 * 3);
        s.x.size(2, 3);
        Check.due("halved", s.x.cell(0, 1), 32);
        Check.due("its look", s.x.look(0, 1), 0);
        s.x.size(6, 3);
        Check.due("it does not come back", s.row(0), "a     ");
    }

    private static void rowsThatGo() {
        for (int rows = 1; rows <= 5; rows++) {
            Sitting s = new Sitting(4, 4);
            s.type("a\rb\rc");
            s.draw();
            s.x.size(4, rows);
            StringBuilder seen = new StringBuilder();
            for (int row = 0; row < rows; row++) {
                seen.append(s.row(row)).append(s.looks(row)).append('/');
            }
            String all = "a   0000/b   0000/c   0000/3:2*1111/    0000/";
            Check.due(rows + " rows", seen.toString(), all.substring(0, 9 * rows));
            s.x.size(4, 4);
            Check.due("the last one of four behind " + rows, s.row(3) + s.looks(3), rows < 4 ? "    0000" : "3:2*1111");
        }
    }

    /** "the place is 0, 0, not at the margin; the next DRAWING is a full one; all else stays" */
    private static void whatStays() {
        Sitting s = new Sitting(4, 2);
        s.type("ab\rcd\ref" + Sitting.MARK + Sitting.LEFT + Sitting.CUT + Sitting.MARK + Sitting.UP + Sitting.PASTE
                + "\033[20");
        s.draw();
        Check.due("ahead", s.x.terminal(0) + "," + s.x.terminal(1), "0,1");
        s.x.size(8, 5);
        int[] due = {4, 8, 1, 9, 0, 1, 2, 1};
        for (int what = 0; what < due.length; what++) {
            Check.due("state(" + what + ")", s.x.state(what), due[what]);
        }
        Check.due("the place and the LOOK", s.place(), "0,0,0,1");
        s.type("1~");
        Check.due("the number of the SEQUENCE stays", s.x.state(7), 0);
        Check.due("the next drawing", s.draw().substring(0, 8), "^[0m^[2J");
    }

    private static void goalAndCharacterStay() {
        Sitting s = new Sitting(4, 2);
        s.type("abc" + Sitting.UP);
        s.bytes(228, 184);
        s.x.size(5, 3);
        Check.due("the GOAL and the mode", s.x.state(4) + "" + s.x.state(6), "43");
        Check.due("the character goes on", s.bytes(173), 4);
        Check.due("to its end", s.x.text(3), 0x4e2d);
    }

    private static void sentStays() {
        Sitting s = new Sitting(4, 2);
        int count = s.x.draw();
        s.x.size(5, 3);
        Check.due("what the latest drawing sent", s.x.sent(count - 1), 'H');
    }

    public static void main(String[] args) {
        refused();
        sameSize();
        columnsThatGo();
        halved();
        rowsThatGo();
        whatStays();
        goalAndCharacterStay();
        sentStays();
        Check.end();
    }
}
