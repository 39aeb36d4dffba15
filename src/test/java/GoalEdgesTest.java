/** Terms, the GOAL: which bytes end it, and where UP and DOWN go at the edges of rows and texts. */
public final class GoalEdgesTest {
    private static Sitting withGoal() {
        Sitting s = new Sitting(8, 3);
        s.type("ab" + Sitting.UP);
        Check.due("the GOAL ahead", s.x.state(4), 3);
        return s;
    }

    /**
     * "0 .. 26, 28 .. 31 and 127: keys, if they are named below, otherwise nothing." and "all that are named here
     * but UP and DOWN end the GOAL, also those that do nothing otherwise; bytes that are no keys leave it".
     * 10 is named, so that it ends the GOAL also outside PASTING, where it does nothing otherwise.
     */
    private static void controlBytes() {
        String named = "\000\010\011\012\014\015\027\031\032\177";
        for (int b = 0; b < 128; b = b == 31 ? 127 : b + 1) {
            Sitting s = withGoal();
            s.bytes(b);
            Check.due("the GOAL behind the byte " + b, s.x.state(4), named.indexOf(b) >= 0 ? 0 : 3);
        }
    }

    private static void goalBehind(String told, String typed, int due) {
        Sitting s = withGoal();
        s.type(typed);
        Check.due("the GOAL behind " + told, s.x.state(4), due);
    }

    private static void otherKeys() {
        for (char last = 64; last <= 126; last++) {
            goalBehind("ESC [ " + last, "\033[" + last, "CDHF".indexOf(last) >= 0 ? 0 : 3);
        }
        goalBehind("DELETE, which has nothing to take", Sitting.DELETE, 0);
        goalBehind("ESC [ 2 ~", "\033[2~", 3);
        goalBehind("ESC [ 4 ~", "\033[4~", 3);
        goalBehind("ESC [ 199 ~", "\033[199~", 3);
        goalBehind("the beginning of PASTING", Sitting.PASTE, 0);
        goalBehind("the end of PASTING without its beginning", Sitting.PASTED, 0);
        goalBehind("ESC [ 202 ~", "\033[202~", 3);
        goalBehind("ESC, not yet a key", "\033", 3);
        goalBehind("ESC, twice", "\033\033", 0);
        goalBehind("ESC and a byte that is nothing", "\033\001", 0);
        goalBehind("ESC [", "\033[", 3);
        goalBehind("ESC [ and a byte that is nothing", "\033[\001", 3);
        goalBehind("a character", "c", 0);
        goalBehind("a MARK", "\u0301", 0);
        goalBehind("a code that is nothing", "\u009f", 3);
        goalBehind("a code behind those", "\u00a0", 0);
    }

    private static void bytesWithin() {
        Sitting s = withGoal();
        s.bytes(226, 130);
        Check.due("within a character", s.x.state(4), 3);
        s.x.tick();
        Check.due("65533 by a TICK", s.x.state(4), 0);
        s = withGoal();
        s.bytes(194, 1);
        Check.due("65533 ahead of a byte that is nothing", s.x.state(4), 0);
        s = withGoal();
        s.bytes(193);
        Check.due("65533 for a byte", s.x.state(4), 0);
    }

    private static void otherCalls() {
        Sitting s = withGoal();
        s.x.tick();
        s.x.draw();
        s.x.size(9, 4);
        s.x.size(0, 4);
        s.x.type('a', 0);
        s.x.type('a', 9);
        Check.due("TICKS, drawings, sizes and refused calls leave it", s.x.state(4), 3);
        s.type("\033");
        s.x.tick();
        Check.due("the ESC of a TICK ends it", s.x.state(4), 0);
    }

    /** Insertions for which the text has no room do nothing otherwise, but are keys. */
    private static void fullText() {
        for (String key : new String[] {"a", "\r", "\t", "\u4e2d", Sitting.YANK}) {
            Sitting s = new Sitting(24, 8);
            s.type("x".repeat(200) + Sitting.DOWN);
            Check.due("the GOAL of a full text", s.x.state(4), 200 % 24 + 1);
            s.type(key);
            Check.due("ended without room", s.x.state(4), 0);
        }
    }

    /** "UP, DOWN (with W less than 4 nothing, the GOAL stays as it is)" */
    private static void fewColumns() {
        for (int columns = 1; columns <= 5; columns++) {
            Sitting s = new Sitting(columns, 3);
            s.type("ab\rc" + Sitting.UP);
            Check.due("UP in " + columns + " columns", s.cursor(), columns < 4 ? 4 : 1);
            Check.due("the GOAL of " + columns + " columns", s.x.state(4), columns < 4 ? 0 : 2);
            s.x.size(8, 3);
            s.type(Sitting.END + Sitting.UP);
            int due = s.x.state(4);
            s.x.size(columns, 1);
            s.type(Sitting.DOWN);
            Check.due("a GOAL that stays in " + columns + " columns", s.x.state(4), due);
        }
    }

    /** "to the row ahead or behind, if there is one"; "also when there is no such row" */
    private static void noSuchRow() {
        Sitting s = new Sitting(8, 3);
        s.type(Sitting.UP);
        Check.due("UP in an empty text", s.cursor() + "" + s.x.state(4), "01");
        s.type(Sitting.HOME + Sitting.DOWN);
        Check.due("DOWN in an empty text", s.cursor() + "" + s.x.state(4), "01");
        s.type("ab\rcd" + Sitting.DOWN);
        Check.due("DOWN in the last row", s.cursor() + "" + s.x.state(4), "53");
        s.type(Sitting.UP);
        Check.due("UP from the last row", s.cursor() + "" + s.x.state(4), "23");
        s.type(Sitting.UP);
        Check.due("UP in the first row", s.cursor() + "" + s.x.state(4), "23");
        s.type(Sitting.DOWN + Sitting.DOWN);
        Check.due("DOWN to the last row", s.cursor() + "" + s.x.state(4), "53");
        s = new Sitting(4, 3);
        s.type("abcd");
        Check.due("the END of a full row is a row", s.cursor(), 4);
        s.type(Sitting.UP);
        Check.due("UP from it", s.cursor() + "" + s.x.state(4), "01");
        s.type(Sitting.DOWN);
        Check.due("DOWN to it", s.cursor(), 4);
    }

    /** "to its last cluster whose column is not greater than the GOAL" */
    private static void lastNotGreater() {
        // Columns of the first row: a 0, the wide one 1, b 3, its END 4.
        int[] due = {0, 1, 1, 2, 3, 3, 3};
        for (int column = 0; column < due.length; column++) {
            Sitting s = new Sitting(8, 3);
            s.type("a\u4e2db\r" + "x".repeat(column) + Sitting.UP);
            Check.due("UP at the GOAL " + column, s.cursor(), due[column]);
            Check.due("the GOAL " + column, s.x.state(4), column + 1);
        }
        // In 6 columns: a 0, TAB 1, b 4, the next row's c 0; the TAB's cells are no columns of their own.
        int[] tabs = {0, 1, 1, 1, 2, 3};
        for (int column = 0; column < tabs.length; column++) {
            Sitting s = new Sitting(6, 8);
            s.type("x".repeat(column) + "\ra\tbd" + Sitting.HOME + Sitting.LEFT + Sitting.DOWN);
            Check.due("DOWN at the GOAL " + column, s.cursor(), column + 1 + tabs[column]);
        }
    }

    private static void goalIsKept() {
        Sitting s = new Sitting(8, 5);
        s.type("abcd\r\r\u4e2d\u4e2d\u4e2d\re" + Sitting.LEFT + Sitting.UP);
        Check.due("a GOAL of 0", s.x.state(4), 1);
        s.type(Sitting.UP + Sitting.UP + Sitting.END + Sitting.DOWN);
        Check.due("a new one of 4, in an empty line", s.cursor() + "" + s.x.state(4), "55");
        s.type(Sitting.DOWN);
        Check.due("the wide one at 4", s.cursor() + "" + s.x.state(4), "85");
        s.type(Sitting.DOWN + Sitting.UP);
        Check.due("and again", s.cursor() + "" + s.x.state(4), "85");
        s.x.size(5, 5);
        s.type(Sitting.UP);
        Check.due("in 5 columns, the row of two wide ones", s.cursor() + "" + s.x.state(4), "75");
    }

    public static void main(String[] args) {
        controlBytes();
        otherKeys();
        bytesWithin();
        otherCalls();
        fullText();
        fewColumns();
        noSuchRow();
        lastNotGreater();
        goalIsKept();
        Check.end();
    }
}
