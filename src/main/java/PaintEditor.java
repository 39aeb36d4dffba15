import java.util.Arrays;

/**
 * A screen editor and the terminal before which it sits. The keyboard makes keys of bytes, the
 * editor changes a text by keys, the layout puts the text's clusters in rows, the screen holds what
 * should be seen, and the painter sends the terminal what it does not show yet.
 */
public final class PaintEditor {
    private static final int NONE = -1;
    private static final int BAD = -1;

    private static final int TAB = 9;
    private static final int END_OF_LINE = 10;
    private static final int RETURN = 13;
    private static final int ESC = 27;
    private static final int BLANK = 32;
    private static final int RUBOUT = 127;
    private static final int UNREADABLE = 65533;

    // Keys that no single byte stands for have numbers that no character has.
    private static final int UP = 65536;
    private static final int DOWN = 65537;
    private static final int RIGHT = 65538;
    private static final int LEFT = 65539;
    private static final int HOME = 65540;
    private static final int END = 65541;
    private static final int DELETE = 65542;
    private static final int PASTE_BEGIN = 65543;
    private static final int PASTE_END = 65544;

    private static final int MOST_CHARACTERS = 200;
    private static final int MOST_CHANGES = 12;
    private static final int MOST_COLUMNS = 24;
    private static final int MOST_ROWS = 8;
    private static final int LEAST_TEXT_COLUMNS = 4;
    private static final int LEAST_TEXT_ROWS = 2;
    private static final int MOST_BYTES_TYPED = 8;
    // No drawing sends more: 192 cells of at most 9 bytes (a MARK of 2 behind a place of 7), and at
    // most 40 bytes a row for its looks, its erasing and its first place.
    private static final int MOST_BYTES_SENT = 2048;

    private static final int STATUS_LOOK = 1;
    private static final int MARKED_LOOK = 2;

    private final Keyboard keyboard;
    private final Editor editor;
    private final Screen screen;
    private final Painter painter;

    public PaintEditor(int columns, int rows) {
        int width = Math.max(1, Math.min(MOST_COLUMNS, columns));
        int height = Math.max(1, Math.min(MOST_ROWS, rows));
        keyboard = new Keyboard();
        editor = new Editor(width);
        screen = new Screen(width, height);
        painter = new Painter(width, height);
    }

    public int type(long bytes, int n) {
        if (n < 1 || n > MOST_BYTES_TYPED) {
            return BAD;
        }
        for (int i = 0; i < n; i++) {
            int typed = (int) (bytes >>> (8 * i)) & 255;
            editor.press(keyboard.leave(typed));
            editor.press(keyboard.take(typed));
        }
        return editor.text.length;
    }

    public int tick() {
        editor.press(keyboard.giveUp());
        return editor.text.length;
    }

    public boolean size(int columns, int rows) {
        if (columns < 1 || columns > MOST_COLUMNS || rows < 1 || rows > MOST_ROWS) {
            return false;
        }
        editor.columns = columns;
        editor.fullDrawingDue = true;
        screen.grid.resize(columns, rows);
        painter.display.resize(columns, rows);
        return true;
    }

    public int draw() {
        screen.compose(editor);
        painter.begin(editor.fullDrawingDue);
        editor.fullDrawingDue = false;
        for (int row = 0; row < screen.grid.rows; row++) {
            painter.paintRow(screen.grid, row);
        }
        painter.makePlaceRight(screen.cursorRow, screen.cursorColumn);
        return painter.count;
    }

    public int text(int place) {
        return editor.text.codeAt(place);
    }

    public int state(int what) {
        switch (what) {
            case 0: return editor.cursor;
            case 1: return editor.marked + 1;
            case 2: return editor.clipLength;
            case 3: return editor.history.kept;
            case 4: return editor.goal + 1;
            case 5: return screen.top;
            case 6: return keyboard.mode;
            case 7: return editor.pasting ? 1 : 0;
            default: return NONE;
        }
    }

    public int cell(int row, int column) {
        return painter.display.grid.clusterAt(row, column);
    }

    public int look(int row, int column) {
        return painter.display.grid.lookAt(row, column);
    }

    public int terminal(int what) {
        Terminal display = painter.display;
        switch (what) {
            case 0: return display.row;
            case 1: return display.column;
            case 2: return display.atMargin ? 1 : 0;
            case 3: return display.writingLook;
            default: return NONE;
        }
    }

    public int sent(int k) {
        return painter.byteAt(k);
    }

    /** What characters are by their codes, and how a cluster is told as one number. */
    private static final class Codes {
        private static final int BEFORE_FIRST_MARK = 767;
        private static final int FIRST_MARK_UNIT = 65536;
        private static final int SECOND_MARK_UNIT = 8388608;

        static boolean isMark(int code) {
            return code >= 768 && code <= 879;
        }

        static boolean takesMarks(int code) {
            return code >= BLANK && !isMark(code);
        }

        static boolean isWide(int code) {
            return code >= 11904 && code <= 55203 || code >= 65281 && code <= 65376;
        }

        static int widthOf(int code) {
            return isWide(code) ? 2 : 1;
        }

        static int characterOf(int cluster) {
            return cluster % FIRST_MARK_UNIT;
        }

        /** The cluster's first MARK; NONE if it has none. */
        static int firstMarkOf(int cluster) {
            int number = cluster % SECOND_MARK_UNIT / FIRST_MARK_UNIT;
            return number == 0 ? NONE : number + BEFORE_FIRST_MARK;
        }

        static int secondMarkOf(int cluster) {
            int number = cluster / SECOND_MARK_UNIT;
            return number == 0 ? NONE : number + BEFORE_FIRST_MARK;
        }

        static int withMark(int cluster, int mark) {
            int unit = cluster < FIRST_MARK_UNIT ? FIRST_MARK_UNIT : SECOND_MARK_UNIT;
            return cluster + unit * (mark - BEFORE_FIRST_MARK);
        }
    }

    /** Makes keys of the bytes that are typed. */
    private static final class Keyboard {
        private static final int PLAIN = 0;
        private static final int ESCAPE = 1;
        private static final int SEQUENCE = 2;
        private static final int WITHIN = 3;
        private static final int MOST_NUMBER = 9999;

        int mode = PLAIN;
        private int number;
        private int code;
        private int bytesDue;
        private int leastNext;
        private int mostNext;
        private int previous = NONE;

        /** The key that comes because the byte does not go on with what the mode began; or NONE. */
        int leave(int typed) {
            return goesOn(typed) ? NONE : giveUp();
        }

        /** Ends what the mode began: the key that comes for it, or NONE. */
        int giveUp() {
            int left = mode;
            mode = PLAIN;
            if (left == ESCAPE) {
                return ESC;
            }
            return left == WITHIN ? UNREADABLE : NONE;
        }

        /** Takes a byte that goes on with the mode: the key that it ends, or NONE. */
        int take(int typed) {
            int key = NONE;
            switch (mode) {
                case ESCAPE:
                    mode = SEQUENCE;
                    number = 0;
                    break;
                case SEQUENCE:
                    key = takeInSequence(typed);
                    break;
                case WITHIN:
                    key = takeWithin(typed);
                    break;
                default:
                    key = takePlain(typed);
                    break;
            }
            previous = typed;
            return key;
        }

        private boolean goesOn(int typed) {
            switch (mode) {
                case ESCAPE: return typed == '[';
                case SEQUENCE: return isDigit(typed) || isFinal(typed);
                case WITHIN: return typed >= leastNext && typed <= mostNext;
                default: return true;
            }
        }

        private static boolean isDigit(int typed) {
            return typed >= '0' && typed <= '9';
        }

        private static boolean isFinal(int typed) {
            return typed >= 64 && typed <= 126;
        }

        private int takePlain(int typed) {
            if (typed == ESC) {
                mode = ESCAPE;
                return NONE;
            }
            if (typed >= 194 && typed <= 239) {
                beginCharacter(typed);
                return NONE;
            }
            if (typed >= 128) {
                return UNREADABLE;
            }
            // A line's two ending bytes are one END OF LINE: the first one has made it.
            return typed == END_OF_LINE && previous == RETURN ? NONE : typed;
        }

        private void beginCharacter(int typed) {
            mode = WITHIN;
            bytesDue = typed < 224 ? 1 : 2;
            code = typed < 224 ? typed & 31 : typed & 15;
            leastNext = typed == 224 ? 160 : 128;
            mostNext = typed == 237 ? 159 : 191;
        }

        private int takeWithin(int typed) {
            code = code * 64 + (typed & 63);
            leastNext = 128;
            mostNext = 191;
            bytesDue--;
            if (bytesDue > 0) {
                return NONE;
            }
            mode = PLAIN;
            return code < 160 ? NONE : code;
        }

        private int takeInSequence(int typed) {
            if (isDigit(typed)) {
                number = Math.min(MOST_NUMBER, 10 * number + typed - '0');
                return NONE;
            }
            mode = PLAIN;
            switch (typed) {
                case 'A': return UP;
                case 'B': return DOWN;
                case 'C': return RIGHT;
                case 'D': return LEFT;
                case 'H': return HOME;
                case 'F': return END;
                case '~': return numberedKey();
                default: return NONE;
            }
        }

        private int numberedKey() {
            switch (number) {
                case 3: return DELETE;
                case 200: return PASTE_BEGIN;
                case 201: return PASTE_END;
                default: return NONE;
            }
        }
    }

    /** A row of characters, with the places where its clusters and lines begin. */
    private static final class Text {
        private final int[] codes = new int[MOST_CHARACTERS];
        int length;

        int codeAt(int place) {
            return place >= 0 && place < length ? codes[place] : NONE;
        }

        boolean hasRoomFor(int count) {
            return count <= MOST_CHARACTERS - length;
        }

        /** The caller has looked whether there is room. */
        void insert(int place, int[] source, int from, int count) {
            System.arraycopy(codes, place, codes, place + count, length - place);
            System.arraycopy(source, from, codes, place, count);
            length += count;
        }

        void remove(int place, int count) {
            System.arraycopy(codes, place + count, codes, place, length - place - count);
            length -= count;
        }

        void copyTo(int[] target, int to, int place, int count) {
            System.arraycopy(codes, place, target, to, count);
        }

        /** A MARK belongs to a cluster when at most one other MARK stands between it and its character. */
        boolean isBeginning(int place) {
            if (!Codes.isMark(codeAt(place))) {
                return true;
            }
            int bearer = Codes.isMark(codeAt(place - 1)) ? place - 2 : place - 1;
            return !Codes.takesMarks(codeAt(bearer));
        }

        /** The first beginning of a cluster (or the text's end) that is not ahead of the place. */
        int beginningFrom(int place) {
            int found = place;
            while (found < length && !isBeginning(found)) {
                found++;
            }
            return Math.min(found, length);
        }

        int beginningAhead(int place) {
            int found = place - 1;
            while (found > 0 && !isBeginning(found)) {
                found--;
            }
            return Math.max(found, 0);
        }

        int lineBeginning(int place) {
            int found = place;
            while (found > 0 && codeAt(found - 1) != END_OF_LINE) {
                found--;
            }
            return found;
        }

        int lineEnd(int place) {
            int found = place;
            while (found < length && codeAt(found) != END_OF_LINE) {
                found++;
            }
            return found;
        }

        /** Counted from 1. */
        int lineNumber(int place) {
            int line = 1;
            for (int i = 0; i < place; i++) {
                if (codeAt(i) == END_OF_LINE) {
                    line++;
                }
            }
            return line;
        }

        /** The cluster that begins at a place, as it shows. */
        int clusterAt(int place) {
            int code = codeAt(place);
            if (code < BLANK) {
                return BLANK;
            }
            int cluster = code;
            int end = beginningFrom(place + 1);
            for (int i = place + 1; i < end; i++) {
                cluster = Codes.withMark(cluster, codeAt(i));
            }
            return cluster;
        }
    }

    /** The latest changes of a text, in a ring in which a new one takes the earliest one's slot. */
    private static final class History {
        private final int[] places = new int[MOST_CHANGES];
        private final int[] counts = new int[MOST_CHANGES];
        private final int[] cursors = new int[MOST_CHANGES];
        private final boolean[] wentAway = new boolean[MOST_CHANGES];
        private final int[] gone = new int[MOST_CHANGES * MOST_CHARACTERS];
        private int earliest;
        int kept;

        void keepInsertion(int place, int count) {
            int slot = newSlot();
            places[slot] = place;
            counts[slot] = count;
            cursors[slot] = place;
            wentAway[slot] = false;
        }

        /** To be called while the text still has what goes. */
        void keepRemoval(Text text, int place, int count, int cursor) {
            int slot = newSlot();
            places[slot] = place;
            counts[slot] = count;
            cursors[slot] = cursor;
            wentAway[slot] = true;
            text.copyTo(gone, slot * MOST_CHARACTERS, place, count);
        }

        /** Undoes the latest change: the cursor ahead of it; NONE when there is no change. */
        int undoIn(Text text) {
            if (kept == 0) {
                return NONE;
            }
            kept--;
            int slot = (earliest + kept) % MOST_CHANGES;
            if (wentAway[slot]) {
                text.insert(places[slot], gone, slot * MOST_CHARACTERS, counts[slot]);
            } else {
                text.remove(places[slot], counts[slot]);
            }
            return cursors[slot];
        }

        private int newSlot() {
            if (kept < MOST_CHANGES) {
                kept++;
            } else {
                earliest = (earliest + 1) % MOST_CHANGES;
            }
            return (earliest + kept - 1) % MOST_CHANGES;
        }
    }

    /** Where the clusters of a text, and its end, lie in rows. */
    private static final class Layout {
        private static final int TAB_STOP = 4;

        // At places where no cluster begins the row is NONE.
        final int[] rowOf = new int[MOST_CHARACTERS + 1];
        final int[] columnOf = new int[MOST_CHARACTERS + 1];
        final int[] widthOf = new int[MOST_CHARACTERS + 1];

        void lay(Text text, int columns) {
            int row = 0;
            int column = 0;
            for (int place = 0; place <= text.length; place++) {
                rowOf[place] = NONE;
                if (!text.isBeginning(place)) {
                    continue;
                }
                int code = text.codeAt(place);
                int width = Codes.widthOf(code);
                if (column + width > columns) {
                    row++;
                    column = 0;
                }
                if (code == TAB) {
                    width = Math.min(columns, column - column % TAB_STOP + TAB_STOP) - column;
                }
                rowOf[place] = row;
                columnOf[place] = column;
                widthOf[place] = width;
                column += width;
                if (code == END_OF_LINE) {
                    row++;
                    column = 0;
                }
            }
        }

        /** The last place of a row whose column is not greater than the goal; NONE without such a row. */
        int placeIn(Text text, int row, int goal) {
            int found = NONE;
            for (int place = 0; place <= text.length; place++) {
                if (row >= 0 && rowOf[place] == row && (found == NONE || columnOf[place] <= goal)) {
                    found = place;
                }
            }
            return found;
        }
    }

    /** The text and all that keys change. */
    private static final class Editor {
        final Text text = new Text();
        final History history = new History();
        final Layout layout = new Layout();
        private final int[] clip = new int[MOST_CHARACTERS];
        private final int[] single = new int[1];
        int clipLength;
        int columns;
        int cursor;
        int marked = NONE;
        int goal = NONE;
        boolean pasting;
        boolean fullDrawingDue = true;

        Editor(int columns) {
            this.columns = columns;
        }

        void press(int key) {
            if (key == UP || key == DOWN) {
                if (!pasting) {
                    moveByRow(key == UP ? -1 : 1);
                }
                return;
            }
            if (pasting ? !worksWhilePasting(key) : !worksOtherwise(key)) {
                return;
            }
            goal = NONE;
            if (isCharacter(key)) {
                insertOne(key);
            } else {
                command(key);
            }
            // A change may have joined MARKS with what is now ahead of the cursor.
            cursor = text.beginningFrom(cursor);
        }

        private static boolean isCharacter(int key) {
            return key >= BLANK && key < UP && key != RUBOUT;
        }

        private static boolean worksWhilePasting(int key) {
            return isCharacter(key) || key == TAB || key == RETURN || key == END_OF_LINE || key == PASTE_END;
        }

        private static boolean worksOtherwise(int key) {
            switch (key) {
                case 0: case 8: case TAB: case END_OF_LINE: case 12: case RETURN: case 23: case 25: case 26: case ESC:
                    return true;
                default:
                    return key >= BLANK;
            }
        }

        private void command(int key) {
            switch (key) {
                case TAB: insertOne(TAB); break;
                case RETURN: insertOne(END_OF_LINE); break;
                case END_OF_LINE:
                    // A key at any time, since it is named, but one that does something only to a text pasted.
                    if (pasting) {
                        insertOne(END_OF_LINE);
                    }
                    break;
                case 8: case RUBOUT: removeBetween(text.beginningAhead(cursor), cursor); break;
                case DELETE: removeBetween(cursor, text.beginningFrom(cursor + 1)); break;
                case LEFT: cursor = text.beginningAhead(cursor); break;
                case RIGHT: cursor = text.beginningFrom(cursor + 1); break;
                case HOME: cursor = text.lineBeginning(cursor); break;
                case END: cursor = text.lineEnd(cursor); break;
                case 0: marked = cursor; break;
                case ESC: marked = NONE; break;
                case 12: fullDrawingDue = true; break;
                case 23: cut(); break;
                case 25: insert(clip, clipLength); break;
                case 26: undo(); break;
                case PASTE_BEGIN: pasting = true; break;
                case PASTE_END: pasting = false; break;
                default: break;
            }
        }

        private void insertOne(int code) {
            single[0] = code;
            insert(single, 1);
        }

        private void insert(int[] source, int count) {
            if (count == 0 || !text.hasRoomFor(count)) {
                return;
            }
            history.keepInsertion(cursor, count);
            text.insert(cursor, source, 0, count);
            cursor += count;
            marked = NONE;
        }

        private void removeBetween(int from, int to) {
            if (from >= to) {
                return;
            }
            history.keepRemoval(text, from, to - from, cursor);
            text.remove(from, to - from);
            cursor = from;
            marked = NONE;
        }

        private void cut() {
            if (marked == NONE || marked == cursor) {
                return;
            }
            int from = Math.min(marked, cursor);
            int to = Math.max(marked, cursor);
            clipLength = to - from;
            text.copyTo(clip, 0, from, clipLength);
            removeBetween(from, to);
        }

        private void undo() {
            int earlier = history.undoIn(text);
            if (earlier != NONE) {
                cursor = earlier;
                marked = NONE;
            }
        }

        private void moveByRow(int by) {
            if (columns < LEAST_TEXT_COLUMNS) {
                return;
            }
            layout.lay(text, columns);
            if (goal == NONE) {
                goal = layout.columnOf[cursor];
            }
            int found = layout.placeIn(text, layout.rowOf[cursor] + by, goal);
            if (found != NONE) {
                cursor = found;
            }
        }

        boolean isBetween(int place) {
            return marked != NONE && place >= Math.min(marked, cursor) && place < Math.max(marked, cursor);
        }
    }

    /** Cells in rows and columns. Rows stand at fixed places, so that cells stay when the size changes. */
    private static final class Grid {
        private final int[] clusters = new int[MOST_ROWS * MOST_COLUMNS];
        private final int[] looks = new int[MOST_ROWS * MOST_COLUMNS];
        int columns;
        int rows;

        Grid(int columns, int rows) {
            this.columns = columns;
            this.rows = rows;
            Arrays.fill(clusters, BLANK);
        }

        boolean has(int row, int column) {
            return row >= 0 && row < rows && column >= 0 && column < columns;
        }

        int clusterAt(int row, int column) {
            return has(row, column) ? clusters[row * MOST_COLUMNS + column] : NONE;
        }

        int lookAt(int row, int column) {
            return has(row, column) ? looks[row * MOST_COLUMNS + column] : NONE;
        }

        void put(int row, int column, int cluster, int newLook) {
            if (has(row, column)) {
                clusters[row * MOST_COLUMNS + column] = cluster;
                looks[row * MOST_COLUMNS + column] = newLook;
            }
        }

        boolean isBlank(int row, int column) {
            return clusterAt(row, column) == BLANK && lookAt(row, column) == 0;
        }

        boolean isWideAt(int row, int column) {
            return has(row, column) && Codes.isWide(Codes.characterOf(clusterAt(row, column)));
        }

        void blankAll() {
            Arrays.fill(clusters, BLANK);
            Arrays.fill(looks, 0);
        }

        void blankFrom(int row, int column) {
            for (int c = column; c < columns; c++) {
                put(row, c, BLANK, 0);
            }
        }

        void resize(int newColumns, int newRows) {
            for (int row = 0; row < rows; row++) {
                blankFrom(row, row < newRows ? newColumns : 0);
                if (isWideAt(row, newColumns - 1)) {
                    put(row, newColumns - 1, BLANK, 0);
                }
            }
            columns = newColumns;
            rows = newRows;
        }
    }

    /** What should be seen. */
    private static final class Screen {
        final Grid grid;
        private final StringBuilder status = new StringBuilder();
        int top;
        int cursorRow;
        int cursorColumn;

        Screen(int columns, int rows) {
            grid = new Grid(columns, rows);
        }

        void compose(Editor editor) {
            grid.blankAll();
            cursorRow = 0;
            cursorColumn = 0;
            if (grid.columns < LEAST_TEXT_COLUMNS || grid.rows < LEAST_TEXT_ROWS) {
                return;
            }
            editor.layout.lay(editor.text, grid.columns);
            follow(editor.layout.rowOf[editor.cursor]);
            cursorColumn = editor.layout.columnOf[editor.cursor];
            for (int place = 0; place <= editor.text.length; place++) {
                showCluster(editor, place);
            }
            showStatus(editor);
        }

        private void follow(int row) {
            if (row < top) {
                top = row;
            } else if (row >= top + grid.rows - 1) {
                top = row - (grid.rows - 2);
            }
            cursorRow = row - top;
        }

        private void showCluster(Editor editor, int place) {
            Layout layout = editor.layout;
            int row = layout.rowOf[place] - top;
            if (layout.rowOf[place] == NONE || row < 0 || row > grid.rows - 2) {
                return;
            }
            int column = layout.columnOf[place];
            int shown = editor.isBetween(place) ? MARKED_LOOK : 0;
            int cluster = editor.text.clusterAt(place);
            grid.put(row, column, cluster, shown);
            int behind = cluster == BLANK ? BLANK : 0;
            for (int i = 1; i < layout.widthOf[place]; i++) {
                grid.put(row, column + i, behind, shown);
            }
        }

        private void showStatus(Editor editor) {
            status.setLength(0);
            status.append(editor.text.lineNumber(editor.cursor));
            status.append(':');
            status.append(cursorColumn + 1);
            if (editor.history.kept > 0) {
                status.append('*');
            }
            for (int column = 0; column < grid.columns; column++) {
                int shown = column < status.length() ? status.charAt(column) : BLANK;
                grid.put(grid.rows - 1, column, shown, STATUS_LOOK);
            }
        }
    }

    /** The terminal: what it shows, and what each thing sent to it does. */
    private static final class Terminal {
        final Grid grid;
        int row;
        int column;
        boolean atMargin;
        int writingLook;
        private int writtenRow;
        private int writtenColumn;
        private boolean markMayJoin;

        Terminal(int columns, int rows) {
            grid = new Grid(columns, rows);
        }

        void write(int code) {
            if (Codes.isMark(code) && joins(code)) {
                return;
            }
            if (atMargin) {
                row = Math.min(row + 1, grid.rows - 1);
                column = 0;
            }
            boolean fits = column + Codes.widthOf(code) <= grid.columns;
            writeCells(fits ? code : BLANK);
        }

        private boolean joins(int mark) {
            int cluster = grid.clusterAt(writtenRow, writtenColumn);
            if (!markMayJoin || Codes.secondMarkOf(cluster) != NONE) {
                return false;
            }
            grid.put(writtenRow, writtenColumn, Codes.withMark(cluster, mark),
                    grid.lookAt(writtenRow, writtenColumn));
            return true;
        }

        private void writeCells(int code) {
            int width = Codes.widthOf(code);
            if (grid.clusterAt(row, column) == 0) {
                grid.put(row, column - 1, BLANK, 0);
            }
            if (grid.clusterAt(row, column + width) == 0) {
                grid.put(row, column + width, BLANK, 0);
            }
            grid.put(row, column, code, writingLook);
            if (width == 2) {
                grid.put(row, column + 1, 0, writingLook);
            }
            writtenRow = row;
            writtenColumn = column;
            markMayJoin = true;
            atMargin = column + width >= grid.columns;
            column = Math.min(column + width, grid.columns - 1);
        }

        void moveTo(int newRow, int newColumn) {
            row = newRow;
            column = newColumn;
            endWriting();
        }

        void eraseRestOfRow() {
            grid.blankFrom(row, column);
            endWriting();
        }

        void eraseAll() {
            grid.blankAll();
            endWriting();
        }

        void resize(int columns, int rows) {
            grid.resize(columns, rows);
            moveTo(0, 0);
        }

        private void endWriting() {
            atMargin = false;
            markMayJoin = false;
        }
    }

    /** Sends the terminal what it does not show yet, and keeps the bytes of the latest drawing. */
    private static final class Painter {
        private static final int LONGEST_BLANKS_SENT = 3;

        final Terminal display;
        private final int[] bytes = new int[MOST_BYTES_SENT];
        int count;

        Painter(int columns, int rows) {
            display = new Terminal(columns, rows);
        }

        int byteAt(int k) {
            return k >= 0 && k < count ? bytes[k] : NONE;
        }

        void begin(boolean full) {
            count = 0;
            if (full) {
                sendLook(0);
                sendSequence(2, NONE, 'J');
                display.eraseAll();
            }
        }

        void paintRow(Grid wanted, int row) {
            int first = firstDifference(wanted, row);
            if (first == NONE) {
                return;
            }
            int last = lastDifference(wanted, row);
            if (first > 0 && wanted.clusterAt(row, first) == 0) {
                first--;
            }
            int blankFrom = blankBeginning(wanted, row);
            int erasedFrom = Math.max(first, blankFrom);
            boolean erases = last - erasedFrom + 1 > LONGEST_BLANKS_SENT;
            int end = erases ? blankFrom - 1 : last;
            for (int column = first; column <= end; column++) {
                // The second cell of a wide cluster is sent with the first one.
                if (wanted.clusterAt(row, column) != 0) {
                    sendCluster(row, column, wanted.clusterAt(row, column), wanted.lookAt(row, column));
                }
            }
            if (erases) {
                makePlaceRight(row, erasedFrom);
                sendSequence(NONE, NONE, 'K');
                display.eraseRestOfRow();
            }
        }

        private boolean differs(Grid wanted, int row, int column) {
            return wanted.clusterAt(row, column) != display.grid.clusterAt(row, column)
                    || wanted.lookAt(row, column) != display.grid.lookAt(row, column);
        }

        private int firstDifference(Grid wanted, int row) {
            for (int column = 0; column < wanted.columns; column++) {
                if (differs(wanted, row, column)) {
                    return column;
                }
            }
            return NONE;
        }

        private int lastDifference(Grid wanted, int row) {
            for (int column = wanted.columns - 1; column >= 0; column--) {
                if (differs(wanted, row, column)) {
                    return column;
                }
            }
            return NONE;
        }

        private static int blankBeginning(Grid wanted, int row) {
            int column = wanted.columns;
            while (column > 0 && wanted.isBlank(row, column - 1)) {
                column--;
            }
            return column;
        }

        private void sendCluster(int row, int column, int cluster, int wantedLook) {
            int character = Codes.characterOf(cluster);
            if (Codes.isMark(character)) {
                // Without a new place it would join the cluster that was written last.
                sendPlace(row, column);
            } else {
                makePlaceRight(row, column);
            }
            if (display.writingLook != wantedLook) {
                sendLook(wantedLook);
            }
            sendCharacter(character);
            sendCharacter(Codes.firstMarkOf(cluster));
            sendCharacter(Codes.secondMarkOf(cluster));
        }

        void makePlaceRight(int row, int column) {
            boolean sameRow = display.row == row;
            if (sameRow && display.column == column && !display.atMargin) {
                return;
            }
            if (sameRow && column > display.column && !display.atMargin) {
                int by = column - display.column;
                sendSequence(by == 1 ? NONE : by, NONE, 'C');
                display.moveTo(row, column);
            } else if (column == 0 && sameRow) {
                put(RETURN);
                display.moveTo(row, 0);
            } else if (column == 0 && row == display.row + 1) {
                put(RETURN);
                put(END_OF_LINE);
                display.moveTo(row, 0);
            } else {
                sendPlace(row, column);
            }
        }

        private void sendPlace(int row, int column) {
            sendSequence(row + 1, column + 1, 'H');
            display.moveTo(row, column);
        }

        private void sendLook(int newLook) {
            int second = newLook == STATUS_LOOK ? 7 : newLook == MARKED_LOOK ? 4 : NONE;
            sendSequence(0, second, 'm');
            display.writingLook = newLook;
        }

        /** ESC [ with as many numbers as there are, and its last byte. */
        private void sendSequence(int first, int second, int last) {
            put(ESC);
            put('[');
            putNumber(first);
            if (second != NONE) {
                put(';');
                putNumber(second);
            }
            put(last);
        }

        /** No number that is sent has more than two digits. */
        private void putNumber(int number) {
            if (number >= 10) {
                put('0' + number / 10);
            }
            if (number >= 0) {
                put('0' + number % 10);
            }
        }

        private void sendCharacter(int code) {
            if (code == NONE) {
                return;
            }
            if (code < 128) {
                put(code);
            } else if (code < 2048) {
                put(192 + code / 64);
                put(128 + code % 64);
            } else {
                put(224 + code / 4096);
                put(128 + code / 64 % 64);
                put(128 + code % 64);
            }
            display.write(code);
        }

        private void put(int sentByte) {
            if (count < MOST_BYTES_SENT) {
                bytes[count] = sentByte;
                count++;
            }
        }
    }
}
