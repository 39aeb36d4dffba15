/** Terms, the terminal: its sentences one by one, also those that no drawing makes use of. */
public final class TerminalEdgesTest {
    private static final int WIDE = 0x4e2d;

    private final Inside terminal;

    private TerminalEdgesTest(int columns, int rows) {
        terminal = Inside.make("Terminal", columns, rows);
    }

    private TerminalEdgesTest write(String characters) {
        for (char c : characters.toCharArray()) {
            terminal.call("write", (int) c);
        }
        return this;
    }

    private TerminalEdgesTest moveTo(int row, int column) {
        terminal.call("moveTo", row, column);
        return this;
    }

    private TerminalEdgesTest look(int look) {
        terminal.set("writingLook", look);
        return this;
    }

    private int cell(int row, int column) {
        return (Integer) terminal.part("grid").call("clusterAt", row, column);
    }

    private int lookAt(int row, int column) {
        return (Integer) terminal.part("grid").call("lookAt", row, column);
    }

    private String row(int row) {
        StringBuilder all = new StringBuilder();
        for (int column = 0; cell(row, column) >= 0; column++) {
            all.append(cell(row, column) == 0 ? '_' : (char) (cell(row, column) % 65536));
        }
        return all.toString();
    }

    private String looks(int row) {
        StringBuilder all = new StringBuilder();
        for (int column = 0; lookAt(row, column) >= 0; column++) {
            all.append(lookAt(row, column));
        }
        return all.toString();
    }

    private String place() {
        return terminal.number("row") + "," + terminal.number("column") + (terminal.flag("atMargin") ? "!" : "");
    }

    /** "The place goes on by the width; if that is W it is W - 1 and at the margin." */
    private static void goesOn() {
        Check.due("to W - 2", new TerminalEdgesTest(4, 2).write("ab").place(), "0,2");
        Check.due("to W - 1", new TerminalEdgesTest(4, 2).write("abc").place(), "0,3");
        Check.due("to W", new TerminalEdgesTest(4, 2).write("abcd").place(), "0,3!");
        Check.due("by 2 to W - 1", new TerminalEdgesTest(4, 2).write("a\u4e2d").place(), "0,3");
        Check.due("by 2 to W", new TerminalEdgesTest(4, 2).write("ab\u4e2d").place(), "0,3!");
        Check.due("in one column", new TerminalEdgesTest(1, 2).write("a").place(), "0,0!");
    }

    /** "at the margin, it goes to column 0 of the next row first (of the last one: stays in that row)" */
    private static void atTheMargin() {
        TerminalEdgesTest t = new TerminalEdgesTest(4, 2).write("abcde");
        Check.due("the next row", t.row(0) + "/" + t.row(1) + " " + t.place(), "abcd/e    1,1");
        t.write("fgh");
        Check.due("the last row is full", t.row(0) + "/" + t.row(1) + " " + t.place(), "abcd/efgh 1,3!");
        t.write("i");
        Check.due("the last row", t.row(0) + "/" + t.row(1) + " " + t.place(), "abcd/ifgh 1,1");
        t = new TerminalEdgesTest(4, 3).write("abcd\u4e2d");
        Check.due("a wide one in the next row", t.row(1) + " " + t.place(), "\u4e2d_   1,2");
        t = new TerminalEdgesTest(4, 1).write("abcd\u4e2d");
        Check.due("a wide one in the only row", t.row(0) + " " + t.place(), "\u4e2d_cd 0,2");
    }

    /** "(A wide one that has no two cells is written as BLANK.)" */
    private static void wideWithoutTwoCells() {
        TerminalEdgesTest t = new TerminalEdgesTest(5, 2).look(2).write("ab\u4e2d");
        Check.due("with three left", t.row(0) + " " + t.place(), "ab\u4e2d_  0,4");
        t = new TerminalEdgesTest(4, 2).look(2).write("ab\u4e2d");
        Check.due("with two left", t.row(0) + " " + t.place(), "ab\u4e2d_ 0,3!");
        t = new TerminalEdgesTest(3, 2).look(2).write("ab\u4e2d");
        Check.due("with one left", t.row(0) + " " + t.looks(0) + " " + t.place(), "ab  222 0,2!");
        t = new TerminalEdgesTest(1, 1).look(1).write("\u4e2d");
        Check.due("in one column", t.row(0) + " " + t.looks(0) + " " + t.place(), "  1 0,0!");
        t = new TerminalEdgesTest(5, 2).write("abc\u4e2d").moveTo(0, 4).write("\u4e2d");
        Check.due("BLANK over the second half of another", t.row(0) + " " + t.place(), "abc   0,4!");
    }

    /** "A MARK joins the cluster written last ..., and it has less than two; otherwise it is as any character." */
    private static void marksThatJoin() {
        TerminalEdgesTest t = new TerminalEdgesTest(6, 2).write("a\u0301");
        Check.due("the first", t.cell(0, 0), 'a' + 65536 * 2);
        Check.due("the place stays", t.place(), "0,1");
        t.write("\u0302");
        Check.due("the second", t.cell(0, 0), 'a' + 65536 * 2 + 8388608 * 3);
        t.write("\u0303");
        Check.due("the third is written", t.cell(0, 1), 0x303);
        Check.due("at the place", t.place(), "0,2");
        t.write("\u0304\u0305\u0306");
        Check.due("a fourth and a fifth join that", t.cell(0, 1), 0x303 + 65536 * 5 + 8388608 * 6);
        Check.due("a sixth does not", t.cell(0, 2), 0x306);
    }

    private static void marksInOtherRows() {
        TerminalEdgesTest t = new TerminalEdgesTest(4, 3).write("ab").moveTo(1, 2).write("c\u0301");
        Check.due("in the second row", t.cell(1, 2), 'c' + 65536 * 2);
        Check.due("not in the first", t.row(0), "ab  ");
        t.write("de\u0302");
        Check.due("behind the margin", t.cell(2, 0), 'e' + 65536 * 3);
        Check.due("not in the row ahead", t.cell(1, 3), 'd');
    }

    private static void marksAtTheMargin() {
        TerminalEdgesTest t = new TerminalEdgesTest(4, 2).write("abcd\u0301");
        Check.due("at the margin one joins", t.cell(0, 3), 'd' + 65536 * 2);
        Check.due("and the margin stays", t.place(), "0,3!");
        t.write("\u0302\u0303");
        Check.due("the third goes to the next row", t.cell(1, 0), 0x303);
        t = new TerminalEdgesTest(4, 2).look(2).write("ab\u4e2d").look(1).write("\u0301");
        Check.due("a wide one's first cell", t.cell(0, 2) + " " + t.cell(0, 3), WIDE + 65536 * 2 + " 0");
        Check.due("its LOOK stays", t.looks(0), "2222");
    }

    /** "if nothing but characters and what ends in m came since" */
    private static void marksThatDoNotJoin() {
        TerminalEdgesTest t = new TerminalEdgesTest(6, 3).write("\u0301");
        Check.due("nothing was written", t.cell(0, 0), 0x301);
        t = new TerminalEdgesTest(6, 3).write("a").look(2).write("\u0301");
        Check.due("a LOOK came since", t.cell(0, 0) + " " + t.looks(0), 'a' + 65536 * 2 + " 000000");
        t = new TerminalEdgesTest(6, 3).write("a").moveTo(0, 1).write("\u0301");
        Check.due("a place came since", t.row(0), "a\u0301    ");
        t = new TerminalEdgesTest(6, 3).write("a");
        t.terminal.call("eraseRestOfRow");
        Check.due("ESC [ K came since", t.write("\u0301").row(0), "a\u0301    ");
        t = new TerminalEdgesTest(6, 3).write("a");
        t.terminal.call("eraseAll");
        Check.due("ESC [ 2 J came since", t.write("\u0301").row(0), " \u0301    ");
        t = new TerminalEdgesTest(6, 3).write("a");
        t.terminal.call("resize", 6, 3);
        Check.due("a new size came since", t.write("\u0301").row(0), "\u0301     ");
    }

    /** "the other half of a wide one of which half is written over becomes BLANK in LOOK 0" */
    private static void halves() {
        TerminalEdgesTest t = new TerminalEdgesTest(6, 2).look(2).write("a\u4e2db").look(1);
        t.moveTo(0, 1).write("x");
        Check.due("the first half", t.row(0) + " " + t.looks(0), "ax b   210200");
        t = new TerminalEdgesTest(6, 2).look(2).write("a\u4e2db").look(1);
        t.moveTo(0, 2).write("x");
        Check.due("the second half", t.row(0) + " " + t.looks(0), "a xb   201200");
        t = new TerminalEdgesTest(6, 2).look(2).write("\u4e2d\u4e2d\u4e2d").look(1);
        t.moveTo(0, 1).write("\u56fd");
        Check.due("a wide one over two halves", t.row(0) + " " + t.looks(0), " \u56fd_ \u4e2d_ 011022");
        t = new TerminalEdgesTest(6, 2).look(2).write("\u4e2d\u4e2d\u4e2d").look(1);
        t.moveTo(0, 2).write("\u56fd");
        Check.due("a wide one over a whole one", t.row(0) + " " + t.looks(0), "\u4e2d_\u56fd_\u4e2d_ 221122");
        t = new TerminalEdgesTest(6, 2).look(2).write("\u4e2d\u4e2d").look(1);
        t.moveTo(0, 0).write("xy");
        Check.due("both halves", t.row(0) + " " + t.looks(0), "xy\u4e2d_   112200");
    }

    /** "All these but characters end being at the margin, those that end in m do not." */
    private static void endsOfTheMargin() {
        TerminalEdgesTest t = new TerminalEdgesTest(4, 2).write("abcd").look(2);
        Check.due("a LOOK", t.place(), "0,3!");
        Check.due("a place", t.moveTo(0, 3).place(), "0,3");
        t = new TerminalEdgesTest(4, 2).write("abcd");
        t.terminal.call("eraseRestOfRow");
        Check.due("ESC [ K, with the cell at the place", t.row(0) + " " + t.place(), "abc  0,3");
        t = new TerminalEdgesTest(4, 2).write("abcd");
        t.terminal.call("eraseAll");
        Check.due("ESC [ 2 J", t.row(0) + " " + t.place(), "     0,3");
        t = new TerminalEdgesTest(4, 2).write("abcd");
        t.terminal.call("resize", 4, 2);
        Check.due("a new size", t.row(0) + " " + t.place(), "abcd 0,0");
    }

    /** "ESC [ K: the cells from the place on in its row become BLANK, LOOK 0. ESC [ 2 J: all do." */
    private static void erasing() {
        for (int column = 0; column < 4; column++) {
            TerminalEdgesTest t = new TerminalEdgesTest(4, 2).look(2).write("abcdefgh").moveTo(0, column);
            t.terminal.call("eraseRestOfRow");
            Check.due("ESC [ K at " + column, t.row(0), "abcd".substring(0, column) + "    ".substring(column));
            Check.due("its looks", t.looks(0), "2222".substring(0, column) + "0000".substring(column));
            Check.due("the other row", t.row(1) + t.looks(1), "efgh2222");
            Check.due("the place stays", t.place(), "0," + column);
            t.terminal.call("eraseAll");
            Check.due("ESC [ 2 J", t.row(0) + t.row(1) + t.looks(0) + t.looks(1), "        00000000");
            Check.due("the place stays then, too", t.place(), "0," + column);
            Check.due("and the LOOK", t.terminal.number("writingLook"), 2);
        }
    }

    /** Promise 10: "2 1 at the margin", where no drawing leaves the terminal; and promise 4: "not at the margin". */
    private static void marginTold() {
        Sitting s = new Sitting(4, 2);
        Inside display = Inside.of(s.x).part("painter").part("display");
        display.call("moveTo", 1, 2);
        display.call("write", (int) 'a');
        Check.due("ahead of the margin", s.place(), "1,3,0,0");
        display.call("write", (int) 'b');
        Check.due("at the margin", s.place(), "1,3,1,0");
        s.x.size(5, 2);
        Check.due("a new size", s.place(), "0,0,0,0");
    }

    public static void main(String[] args) {
        goesOn();
        atTheMargin();
        wideWithoutTwoCells();
        marksThatJoin();
        marksInOtherRows();
        marksAtTheMargin();
        marksThatDoNotJoin();
        halves();
        endsOfTheMargin();
        erasing();
        marginTold();
        Check.end();
    }
}
