import java.nio.charset.StandardCharsets;

/** A PaintEditor with a shorter way to type and to read, for the tests. */
final class Sitting {
    static final String UP = "\033[A";
    static final String DOWN = "\033[B";
    static final String RIGHT = "\033[C";
    static final String LEFT = "\033[D";
    static final String HOME = "\033[H";
    static final String END = "\033[F";
    static final String DELETE = "\033[3~";
    static final String PASTE = "\033[200~";
    static final String PASTED = "\033[201~";
    static final String MARK = "\000";
    static final String CUT = "\027";
    static final String YANK = "\031";
    static final String UNDO = "\032";
    static final String REDRAW = "\014";
    static final String RUBOUT = "\177";

    final PaintEditor x;

    Sitting(int columns, int rows) {
        x = new PaintEditor(columns, rows);
    }

    /** Types the text's UTF-8 bytes, one a call; answers what the last call answered. */
    int type(String text) {
        int answer = 0;
        for (byte b : text.getBytes(StandardCharsets.UTF_8)) {
            answer = x.type(b & 255, 1);
        }
        return answer;
    }

    int bytes(int... typed) {
        int answer = 0;
        for (int b : typed) {
            answer = x.type(b, 1);
        }
        return answer;
    }

    String text() {
        StringBuilder all = new StringBuilder();
        for (int i = 0; x.text(i) >= 0; i++) {
            all.append((char) x.text(i));
        }
        return all.toString();
    }

    int cursor() {
        return x.state(0);
    }

    /** Draws; what was sent, read as UTF-8, with ESC as "^". */
    String draw() {
        int count = x.draw();
        byte[] sent = new byte[count];
        for (int k = 0; k < count; k++) {
            sent[k] = (byte) x.sent(k);
        }
        Check.due("sent behind the last byte", x.sent(count), -1);
        return new String(sent, StandardCharsets.UTF_8).replace('\033', '^');
    }

    /** The terminal's row: a cluster's character for each cell, "_" for the second cell of a wide one. */
    String row(int row) {
        StringBuilder all = new StringBuilder();
        for (int column = 0; x.cell(row, column) >= 0; column++) {
            int cluster = x.cell(row, column);
            all.append(cluster == 0 ? '_' : (char) (cluster % 65536));
        }
        return all.toString();
    }

    String looks(int row) {
        StringBuilder all = new StringBuilder();
        for (int column = 0; x.look(row, column) >= 0; column++) {
            all.append(x.look(row, column));
        }
        return all.toString();
    }

    /** Row, column, margin and LOOK of the terminal. */
    String place() {
        return x.terminal(0) + "," + x.terminal(1) + "," + x.terminal(2) + "," + x.terminal(3);
    }
}
