import java.util.ArrayDeque;
import java.util.ArrayList;
import java.util.Deque;
import java.util.List;

/**
 * The document told a second time, without regard to speed or room: texts as lists, changes as
 * whole texts, and a terminal that reads the bytes. ModelTest sets PaintEditor against it.
 */
final class Model {
    private static final int UP = -10;
    private static final int DOWN = -11;
    private static final int RIGHT = -12;
    private static final int LEFT = -13;
    private static final int HOME = -14;
    private static final int END = -15;
    private static final int DELETE = -16;
    private static final int PASTE = -17;
    private static final int PASTED = -18;
    private static final int ESC = -19;

    private record Earlier(List<Integer> text, int cursor) {
    }

    private record Lying(int place, int row, int column, int width) {
    }

    private List<Integer> text = new ArrayList<>();
    private List<Integer> clip = new ArrayList<>();
    private final Deque<Earlier> changes = new ArrayDeque<>();
    private int w;
    private int h;
    private int cursor;
    private int marked = -1;
    private int goal = -1;
    private int top;
    private boolean pasting;
    private boolean full = true;
    private final List<Integer> pending = new ArrayList<>();
    private int previousByte = -1;

    private int[][] cells;
    private int[][] looks;
    private int row;
    private int column;
    private boolean margin;
    private int look;
    private int[] written;
    private List<Integer> sent = new ArrayList<>();

    Model(int columns, int rows) {
        w = columns < 1 ? 1 : columns > 24 ? 24 : columns;
        h = rows < 1 ? 1 : rows > 8 ? 8 : rows;
        cells = blankCells(w, h);
        looks = new int[h][w];
    }

    private static int[][] blankCells(int w, int h) {
        int[][] made = new int[h][w];
        for (int[] line : made) {
            java.util.Arrays.fill(line, 32);
        }
        return made;
    }

    // ---- bytes

    int type(long bytes, int n) {
        if (n < 1 || n > 8) {
            return -1;
        }
        for (int i = 0; i < n; i++) {
            oneByte((int) ((bytes >> (8 * i)) & 0xff));
        }
        return text.size();
    }

    int tick() {
        if (!pending.isEmpty()) {
            int first = pending.get(0);
            boolean lone = pending.size() == 1;
            pending.clear();
            if (first >= 128) {
                key(65533);
            } else if (lone) {
                key(ESC);
            }
        }
        return text.size();
    }

    /** pending holds all bytes since the mode was PLAIN: ESC, ESC [ digits, or a character's first ones. */
    private void oneByte(int b) {
        if (!pending.isEmpty() && pending.get(0) >= 128) {
            if (goesOnWithCharacter(b)) {
                pending.add(b);
                finishCharacter();
            } else {
                pending.clear();
                key(65533);
                first(b);
            }
        } else if (pending.size() == 1) {
            if (b == '[') {
                pending.add(b);
            } else {
                pending.clear();
                key(ESC);
                first(b);
            }
        } else if (pending.size() > 1) {
            if (b >= '0' && b <= '9') {
                pending.add(b);
            } else {
                List<Integer> digits = new ArrayList<>(pending.subList(2, pending.size()));
                pending.clear();
                if (b >= 64 && b <= 126) {
                    sequence(digits, b);
                } else {
                    first(b);
                }
            }
        } else {
            first(b);
        }
        previousByte = b;
    }

    private boolean goesOnWithCharacter(int b) {
        if (b < 128 || b > 191) {
            return false;
        }
        int lead = pending.get(0);
        if (pending.size() == 1 && lead == 224 && b < 160) {
            return false;
        }
        return !(pending.size() == 1 && lead == 237 && b > 159);
    }

    private void finishCharacter() {
        int lead = pending.get(0);
        if (pending.size() < (lead < 224 ? 2 : 3)) {
            return;
        }
        byte[] raw = new byte[pending.size()];
        for (int i = 0; i < raw.length; i++) {
            raw[i] = (byte) (int) pending.get(i);
        }
        pending.clear();
        int code = new String(raw, java.nio.charset.StandardCharsets.UTF_8).charAt(0);
        if (code >= 160) {
            key(code);
        }
    }

    private void sequence(List<Integer> digits, int last) {
        int number = 0;
        for (int digit : digits) {
            number = Math.min(9999, number * 10 + digit - '0');
        }
        int at = "ABCDHF".indexOf(last);
        if (at >= 0) {
            key(new int[] {UP, DOWN, RIGHT, LEFT, HOME, END}[at]);
        } else if (last == '~' && number == 3) {
            key(DELETE);
        } else if (last == '~' && number == 200) {
            key(PASTE);
        } else if (last == '~' && number == 201) {
            key(PASTED);
        }
    }

    private void first(int b) {
        if (b == 27 || b >= 194 && b <= 239) {
            pending.add(b);
        } else if (b >= 128) {
            key(65533);
        } else {
            key(b);
        }
    }

    // ---- keys

    private void key(int k) {
        boolean character = k >= 32 && k != 127;
        if (pasting) {
            if (k == 10 && previousByte == 13) {
                return;
            }
            if (!character && k != 13 && k != 9 && k != 10 && k != PASTED) {
                return;
            }
        } else if (!character && List.of(0, 8, 9, 10, 12, 13, 23, 25, 26, 127, UP, DOWN, RIGHT, LEFT, HOME, END, DELETE,
                PASTE, PASTED, ESC).indexOf(k) < 0) {
            return;
        }
        if (k == UP || k == DOWN) {
            byRow(k == UP ? -1 : 1);
            return;
        }
        goal = -1;
        if (character || k == 9) {
            replace(cursor, cursor, List.of(k), cursor + 1);
        } else if (k == 13 || k == 10 && pasting) {
            replace(cursor, cursor, List.of(10), cursor + 1);
        } else if (k == 127 || k == 8) {
            int from = before(cursor);
            replace(from, cursor, List.of(), from);
        } else if (k == DELETE) {
            replace(cursor, after(cursor), List.of(), cursor);
        } else if (k == 25) {
            replace(cursor, cursor, clip, cursor + clip.size());
        } else if (k == 23) {
            cut();
        } else if (k == 26) {
            undo();
        } else {
            plainKey(k);
        }
    }

    private void plainKey(int k) {
        if (k == LEFT) {
            cursor = before(cursor);
        } else if (k == RIGHT) {
            cursor = after(cursor);
        } else if (k == HOME) {
            cursor = text.subList(0, cursor).lastIndexOf(10) + 1;
        } else if (k == END) {
            int at = text.subList(cursor, text.size()).indexOf(10);
            cursor = at < 0 ? text.size() : cursor + at;
        } else if (k == 0) {
            marked = cursor;
        } else if (k == ESC) {
            marked = -1;
        } else if (k == 12) {
            full = true;
        } else if (k == PASTE) {
            pasting = true;
        } else if (k == PASTED) {
            pasting = false;
        }
    }

    private void replace(int from, int to, List<Integer> by, int then) {
        if (from == to && by.isEmpty() || text.size() - (to - from) + by.size() > 200) {
            return;
        }
        changes.addLast(new Earlier(new ArrayList<>(text), cursor));
        if (changes.size() > 12) {
            changes.removeFirst();
        }
        List<Integer> made = new ArrayList<>(text.subList(0, from));
        made.addAll(by);
        made.addAll(text.subList(to, text.size()));
        text = made;
        cursor = then;
        while (!beginnings().contains(cursor)) {
            cursor++;
        }
        marked = -1;
    }

    private void cut() {
        if (marked >= 0 && marked != cursor) {
            int from = Math.min(marked, cursor);
            int to = Math.max(marked, cursor);
            clip = new ArrayList<>(text.subList(from, to));
            replace(from, to, List.of(), from);
        }
    }

    private void undo() {
        if (!changes.isEmpty()) {
            Earlier earlier = changes.removeLast();
            text = new ArrayList<>(earlier.text());
            cursor = earlier.cursor();
            marked = -1;
        }
    }

    private static boolean mark(int code) {
        return code >= 0x300 && code <= 0x36f;
    }

    private static boolean wide(int code) {
        return code >= 11904 && code <= 55203 || code >= 65281 && code <= 65376;
    }

    /** All places where clusters begin, and the text's end. */
    private List<Integer> beginnings() {
        List<Integer> all = new ArrayList<>();
        int i = 0;
        while (i < text.size()) {
            all.add(i);
            int code = text.get(i);
            i++;
            if (code != 9 && code != 10 && !mark(code)) {
                for (int k = 0; k < 2 && i < text.size() && mark(text.get(i)); k++) {
                    i++;
                }
            }
        }
        all.add(text.size());
        return all;
    }

    private int before(int place) {
        int found = 0;
        for (int begin : beginnings()) {
            if (begin < place) {
                found = begin;
            }
        }
        return found;
    }

    private int after(int place) {
        for (int begin : beginnings()) {
            if (begin > place) {
                return begin;
            }
        }
        return text.size();
    }

    // ---- layout

    private List<Lying> layout() {
        List<Lying> all = new ArrayList<>();
        int r = 0;
        int c = 0;
        for (int place : beginnings()) {
            int code = place < text.size() ? text.get(place) : 10;
            int width = wide(code) ? 2 : 1;
            if (w - c < width) {
                r++;
                c = 0;
            }
            if (code == 9) {
                while (c + width < w && (c + width) % 4 != 0) {
                    width++;
                }
            }
            all.add(new Lying(place, r, c, width));
            c += width;
            if (code == 10) {
                r++;
                c = 0;
            }
        }
        return all;
    }

    private Lying lyingAtCursor() {
        for (Lying lying : layout()) {
            if (lying.place() == cursor) {
                return lying;
            }
        }
        throw new IllegalStateException("the cursor is within a cluster");
    }

    private void byRow(int by) {
        if (w < 4) {
            return;
        }
        Lying here = lyingAtCursor();
        if (goal < 0) {
            goal = here.column();
        }
        for (Lying lying : layout()) {
            if (lying.row() == here.row() + by && lying.column() <= goal) {
                cursor = lying.place();
            }
        }
    }

    // ---- drawing

    private int[][] wanted;
    private int[][] wantedLooks;

    int draw() {
        sent = new ArrayList<>();
        wanted = blankCells(w, h);
        wantedLooks = new int[h][w];
        int atRow = 0;
        int atColumn = 0;
        if (w >= 4 && h >= 2) {
            Lying here = lyingAtCursor();
            top = here.row() < top ? here.row() : here.row() >= top + h - 1 ? here.row() - (h - 2) : top;
            atRow = here.row() - top;
            atColumn = here.column();
            compose(here);
        }
        if (full) {
            send("\033[0m");
            send("\033[2J");
        }
        full = false;
        for (int r = 0; r < h; r++) {
            paint(r);
        }
        place(atRow, atColumn);
        return sent.size();
    }

    private void compose(Lying here) {
        for (Lying lying : layout()) {
            int r = lying.row() - top;
            if (r < 0 || r > h - 2) {
                continue;
            }
            int end = after(lying.place());
            boolean lit = marked >= 0 && lying.place() >= Math.min(marked, cursor)
                    && lying.place() < Math.max(marked, cursor);
            for (int i = 0; i < lying.width(); i++) {
                boolean shows = lying.place() < text.size() && text.get(lying.place()) >= 32;
                wanted[r][lying.column() + i] = !shows ? 32 : i == 0 ? number(lying.place(), end) : 0;
                wantedLooks[r][lying.column() + i] = lit ? 2 : 0;
            }
        }
        int line = 1;
        for (int code : text.subList(0, cursor)) {
            line += code == 10 ? 1 : 0;
        }
        String status = line + ":" + (here.column() + 1) + (changes.isEmpty() ? "" : "*");
        for (int c = 0; c < w; c++) {
            wanted[h - 1][c] = c < status.length() ? status.charAt(c) : 32;
            wantedLooks[h - 1][c] = 1;
        }
    }

    private int number(int from, int end) {
        int made = text.get(from);
        int[] unit = {0, 65536, 8388608};
        for (int i = 1; i < end - from; i++) {
            made += unit[i] * (text.get(from + i) - 767);
        }
        return made;
    }

    private void paint(int r) {
        int a = -1;
        int b = -1;
        int e = 0;
        for (int c = 0; c < w; c++) {
            if (wanted[r][c] != cells[r][c] || wantedLooks[r][c] != looks[r][c]) {
                a = a < 0 ? c : a;
                b = c;
            }
            if (wanted[r][c] != 32 || wantedLooks[r][c] != 0) {
                e = c + 1;
            }
        }
        if (a < 0) {
            return;
        }
        if (wanted[r][a] == 0) {
            a--;
        }
        boolean erase = b - Math.max(a, e) + 1 > 3;
        int end = erase ? e - 1 : b;
        for (int c = a; c <= end; c++) {
            if (wanted[r][c] != 0) {
                cluster(r, c);
            }
        }
        if (erase) {
            place(r, Math.max(a, e));
            send("\033[K");
        }
    }

    private void cluster(int r, int c) {
        int all = wanted[r][c];
        if (mark(all & 0xffff)) {
            send("\033[" + (r + 1) + ";" + (c + 1) + "H");
        } else {
            place(r, c);
        }
        if (look != wantedLooks[r][c]) {
            send(new String[] {"\033[0m", "\033[0;7m", "\033[0;4m"}[wantedLooks[r][c]]);
        }
        StringBuilder characters = new StringBuilder().append((char) all);
        if ((all >> 16 & 127) != 0) {
            characters.append((char) ((all >> 16 & 127) + 767));
        }
        if (all >> 23 != 0) {
            characters.append((char) ((all >> 23) + 767));
        }
        send(characters.toString());
    }

    private void place(int r, int c) {
        if (row == r && column == c && !margin) {
            return;
        }
        if (row == r && !margin && c > column) {
            send(c - column == 1 ? "\033[C" : "\033[" + (c - column) + "C");
        } else if (c == 0 && r == row) {
            send("\r");
        } else if (c == 0 && r == row + 1) {
            send("\r\n");
        } else {
            send("\033[" + (r + 1) + ";" + (c + 1) + "H");
        }
    }

    private void send(String what) {
        byte[] raw = what.getBytes(java.nio.charset.StandardCharsets.UTF_8);
        for (byte one : raw) {
            sent.add(one & 255);
        }
        takeAll(new String(raw, java.nio.charset.StandardCharsets.UTF_8));
    }

    // ---- the terminal, which reads what is sent

    private void takeAll(String what) {
        int i = 0;
        while (i < what.length()) {
            char c = what.charAt(i);
            if (c == '\033') {
                int end = i + 2;
                while (what.charAt(end) < 64) {
                    end++;
                }
                take(what.substring(i + 2, end), what.charAt(end));
                i = end + 1;
                continue;
            }
            if (c == '\r') {
                column = 0;
                still();
            } else if (c == '\n') {
                row++;
                still();
            } else {
                character(c);
            }
            i++;
        }
    }

    private void still() {
        margin = false;
        written = null;
    }

    private void take(String numbers, char last) {
        String[] parts = numbers.split(";");
        if (last == 'm') {
            look = numbers.equals("0;7") ? 1 : numbers.equals("0;4") ? 2 : 0;
            return;
        }
        if (last == 'H') {
            row = Integer.parseInt(parts[0]) - 1;
            column = Integer.parseInt(parts[1]) - 1;
        } else if (last == 'C') {
            column += numbers.isEmpty() ? 1 : Integer.parseInt(numbers);
        } else {
            for (int r = last == 'K' ? row : 0; r <= (last == 'K' ? row : h - 1); r++) {
                for (int c = last == 'K' ? column : 0; c < w; c++) {
                    cells[r][c] = 32;
                    looks[r][c] = 0;
                }
            }
        }
        still();
    }

    private void character(int code) {
        if (mark(code) && written != null && written[2] < 2) {
            cells[written[0]][written[1]] += (written[2] == 0 ? 65536 : 8388608) * (code - 767);
            written[2]++;
            return;
        }
        if (margin) {
            row = Math.min(h - 1, row + 1);
            column = 0;
        }
        int width = wide(code) ? 2 : 1;
        written = new int[] {row, column, 0};
        for (int i = 0; i < width; i++) {
            overwrite(column + i, i == 0 ? code : 0);
        }
        column += width;
        margin = column == w;
        if (margin) {
            column--;
        }
    }

    private void overwrite(int c, int value) {
        if (cells[row][c] == 0) {
            int first = c - 1;
            if (value != 0) {
                cells[row][first] = 32;
                looks[row][first] = 0;
            }
        } else if (wide(cells[row][c] & 0xffff) && c + 1 < w && cells[row][c + 1] == 0) {
            cells[row][c + 1] = 32;
            looks[row][c + 1] = 0;
        }
        cells[row][c] = value;
        looks[row][c] = look;
    }

    // ---- what is asked

    boolean size(int columns, int rows) {
        if (columns < 1 || columns > 24 || rows < 1 || rows > 8) {
            return false;
        }
        int[][] newCells = blankCells(columns, rows);
        int[][] newLooks = new int[rows][columns];
        for (int r = 0; r < Math.min(h, rows); r++) {
            for (int c = 0; c < Math.min(w, columns); c++) {
                boolean halved = wide(cells[r][c] & 0xffff) && c + 1 == columns;
                newCells[r][c] = halved ? 32 : cells[r][c];
                newLooks[r][c] = halved ? 0 : looks[r][c];
            }
        }
        cells = newCells;
        looks = newLooks;
        w = columns;
        h = rows;
        row = 0;
        column = 0;
        still();
        full = true;
        return true;
    }

    int text(int place) {
        return place >= 0 && place < text.size() ? text.get(place) : -1;
    }

    int state(int what) {
        int mode = pending.isEmpty() ? 0 : pending.get(0) >= 128 ? 3 : pending.size() == 1 ? 1 : 2;
        int[] all = {cursor, marked + 1, clip.size(), changes.size(), goal + 1, top, mode, pasting ? 1 : 0};
        return what >= 0 && what < all.length ? all[what] : -1;
    }

    int cell(int r, int c) {
        return r >= 0 && r < h && c >= 0 && c < w ? cells[r][c] : -1;
    }

    int look(int r, int c) {
        return r >= 0 && r < h && c >= 0 && c < w ? looks[r][c] : -1;
    }

    int terminal(int what) {
        int[] all = {row, column, margin ? 1 : 0, look};
        return what >= 0 && what < all.length ? all[what] : -1;
    }

    int sent(int k) {
        return k >= 0 && k < sent.size() ? sent.get(k) : -1;
    }

    /** True when the terminal shows all that the latest drawing was to show. */
    boolean shown() {
        return java.util.Arrays.deepEquals(wanted, cells) && java.util.Arrays.deepEquals(wantedLooks, looks);
    }
}
