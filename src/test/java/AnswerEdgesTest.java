/** Promises 1 to 11: wrong arguments on both sides of the right ones, and that they change nothing. */
public final class AnswerEdgesTest {
    private static final int[] FAR = {Integer.MIN_VALUE, Integer.MIN_VALUE + 1, -65536, -256, 256, 65536,
        Integer.MAX_VALUE - 1, Integer.MAX_VALUE};

    /** Promise 1: "a screen and terminal of these sizes (the nearest ones that may be)" */
    private static void newObjects() {
        int[] wishes = {Integer.MIN_VALUE, -1, 0, 1, 2, 3, 4, 7, 8, 9, 23, 24, 25, Integer.MAX_VALUE};
        for (int columns : wishes) {
            for (int rows : wishes) {
                int w = columns < 1 ? 1 : columns > 24 ? 24 : columns;
                int h = rows < 1 ? 1 : rows > 8 ? 8 : rows;
                String told = "new(" + columns + ", " + rows + ")";
                Sitting s = new Sitting(columns, rows);
                Check.due(told + ": the first row", s.row(0) + s.looks(0), " ".repeat(w) + "0".repeat(w));
                Check.due(told + ": the last row", s.row(h - 1) + s.looks(h - 1), " ".repeat(w) + "0".repeat(w));
                Check.due(told + ": none behind it", s.x.cell(h, 0), -1);
                Check.due(told + ": the place", s.place(), "0,0,0,0");
                Check.due(told + ": an empty text", s.x.text(0), -1);
                s.type("ab");
                s.draw();
                Check.due(told + ": its screen", s.row(0).trim(), w < 4 || h < 2 ? "" : "ab");
            }
        }
    }

    /** Promise 2: "BAD (-1) when n is not 1 .. 8." */
    private static void numbersOfBytes() {
        for (int n = -3; n <= 12; n++) {
            PaintEditor x = new PaintEditor(24, 3);
            boolean may = n >= 1 && n <= 8;
            Check.due("type(.., " + n + ")", x.type(0x6867666564636261L, n), may ? n : -1);
            for (int place = 0; place < 8; place++) {
                Check.due("text(" + place + ") behind " + n, x.text(place), may && place < n ? 'a' + place : -1);
            }
        }
        for (int n : FAR) {
            PaintEditor x = new PaintEditor(24, 3);
            x.type(0x415b1b61L, 4);
            Check.due("type(.., " + n + ")", x.type(0x6867666564636261L, n), -1);
            Check.due("nothing was typed", x.text(1), -1);
            Check.due("the GOAL stays", x.state(4), 2);
        }
    }

    /** A refused call types nothing: no byte of it is the one right ahead of a 10, and no mode goes on. */
    private static void refusedTyping() {
        Sitting s = new Sitting(8, 3);
        s.type(Sitting.PASTE + "a");
        s.x.type(13, 0);
        s.x.type(13, 9);
        Check.due("10 behind a refused 13", s.type("\n"), 2);
        s.type("\r");
        s.x.type('a', 0);
        s.x.type('a', 9);
        Check.due("10 behind a refused a", s.type("\n"), 3);
        s.bytes(226, 130);
        s.x.type(172, 9);
        Check.due("within a character", s.x.state(6), 3);
        Check.due("it goes on", s.bytes(172), 4);
    }

    /** Promise 2: "The n lowest bytes of a number are typed, the lowest first" */
    private static void lowestBytes() {
        PaintEditor x = new PaintEditor(24, 3);
        Check.due("one", x.type(-1L << 8 | 'a', 1), 1);
        Check.due("bytes above are not typed", x.type('b', 1), 2);
        Check.due("two", x.type(-1L << 16 | 'd' << 8 | 'c', 2), 4);
        Check.due("eight of -1: 255 is 65533", x.type(-1L, 8), 12);
        Check.due("the highest byte is 128", x.type(Long.MIN_VALUE, 8), 13);
        Check.due("its text", x.text(12), 65533);
        Check.due("its 0 bytes are keys", x.state(1), 0);
        x.type(Long.MIN_VALUE, 7);
        Check.due("seven 0 bytes", x.state(1), 14);
    }

    /** Promise 6: "-1 when there is none" */
    private static void places() {
        Sitting s = new Sitting(8, 3);
        for (int length = 0; length <= 3; length++) {
            Check.due("text(-1) of " + length, s.x.text(-1), -1);
            Check.due("the last one of " + length, s.x.text(length - 1), length == 0 ? -1 : 'a' + length - 1);
            Check.due("behind the last one of " + length, s.x.text(length), -1);
            s.type("" + (char) ('a' + length));
        }
        for (int place : FAR) {
            Check.due("text(" + place + ")", s.x.text(place), -1);
        }
        s.type(Sitting.RUBOUT.repeat(4));
        Check.due("text(0) when all went", s.x.text(0), -1);
    }

    /** Promises 7 and 10: "-1 for others" */
    private static void whats() {
        Sitting s = new Sitting(8, 3);
        for (int what = -3; what <= 12; what++) {
            Check.due("state(" + what + ")", s.x.state(what), what >= 0 && what <= 7 ? 0 : -1);
            Check.due("terminal(" + what + ")", s.x.terminal(what), what >= 0 && what <= 3 ? 0 : -1);
        }
        for (int what : FAR) {
            Check.due("state(" + what + ")", s.x.state(what), -1);
            Check.due("terminal(" + what + ")", s.x.terminal(what), -1);
        }
    }

    /** Promises 8 and 9: "-1 when there is no such cell" */
    private static void cells() {
        int[][] sizes = {{1, 1}, {5, 3}, {24, 8}};
        for (int[] size : sizes) {
            PaintEditor x = new PaintEditor(size[0], size[1]);
            for (int row = -2; row <= 9; row++) {
                for (int column = -2; column <= 26; column++) {
                    boolean there = row >= 0 && row < size[1] && column >= 0 && column < size[0];
                    Check.due("cell(" + row + ", " + column + ")", x.cell(row, column), there ? 32 : -1);
                    Check.due("look(" + row + ", " + column + ")", x.look(row, column), there ? 0 : -1);
                }
            }
            for (int far : FAR) {
                Check.due("cell(" + far + ", 0)", x.cell(far, 0), -1);
                Check.due("cell(0, " + far + ")", x.cell(0, far), -1);
                Check.due("look(" + far + ", 0)", x.look(far, 0), -1);
                Check.due("look(0, " + far + ")", x.look(0, far), -1);
            }
        }
    }

    /** Promises 5 and 11: "how many bytes were sent", "-1 when there is none" */
    private static void bytesSent() {
        Sitting s = new Sitting(5, 2);
        Check.due("ahead of the first drawing", s.x.sent(0), -1);
        int count = s.x.draw();
        Check.due("the first drawing", count, 8 + 2 + 6 + 5 + 6);
        Check.due("sent(-1)", s.x.sent(-1), -1);
        Check.due("the first byte", s.x.sent(0), 27);
        Check.due("the last byte", s.x.sent(count - 1), 'H');
        Check.due("behind the last byte", s.x.sent(count), -1);
        for (int far : FAR) {
            Check.due("sent(" + far + ")", s.x.sent(far), -1);
        }
        s.type("a");
        Check.due("typing sends nothing new", s.x.sent(count - 1), 'H');
        int next = s.x.draw();
        Check.due("a shorter drawing", next, 4 + 1 + 6 + 6 + 2 + 6);
        Check.due("its last byte", s.x.sent(next - 1), 'H');
        Check.due("behind it, where the longer one had one", s.x.sent(next), -1);
        Check.due("an empty drawing", s.x.draw(), 0);
        Check.due("it has no byte", s.x.sent(0), -1);
    }

    /** Promises 2 and 3: "how many characters the text has" */
    private static void lengths() {
        Sitting s = new Sitting(8, 3);
        Check.due("tick of an empty text", s.x.tick(), 0);
        Check.due("a byte that is nothing", s.bytes(1), 0);
        Check.due("one", s.bytes('a'), 1);
        Check.due("a byte within a character", s.bytes(195), 1);
        Check.due("tick", s.x.tick(), 2);
        Check.due("a key that takes one", s.bytes(127), 1);
        Check.due("a key that takes the last one", s.bytes(127), 0);
        Check.due("a key that takes none", s.bytes(127), 0);
    }

    public static void main(String[] args) {
        newObjects();
        numbersOfBytes();
        refusedTyping();
        lowestBytes();
        places();
        whats();
        cells();
        bytesSent();
        lengths();
        Check.end();
    }
}
