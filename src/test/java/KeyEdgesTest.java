/** Terms, keys, changes, CLIP and UNDO: each sentence at its boundary and on both sides of it. */
public final class KeyEdgesTest {
    /** The text, with "|" ahead of the cursor. */
    private static String seen(Sitting s) {
        return new StringBuilder(s.text()).insert(s.cursor(), '|').toString();
    }

    private static void seen(String told, String typed, String due) {
        Sitting s = new Sitting(8, 3);
        s.type(typed);
        Check.due(told, seen(s), due);
    }

    private static String times(String what, int count) {
        return what.repeat(count);
    }

    /** "A character is inserted at the cursor, which is behind it then. 13: an END OF LINE; 9: a TAB, likewise." */
    private static void insertions() {
        seen("in an empty text", "a", "a|");
        seen("at the beginning", "ab" + Sitting.HOME + "x", "x|ab");
        seen("in the middle", "ab" + Sitting.LEFT + "x", "ax|b");
        seen("at the end", "ab" + Sitting.END + "x", "abx|");
        seen("13 in the middle", "ab" + Sitting.LEFT + "\r", "a\n|b");
        seen("9 in the middle", "ab" + Sitting.LEFT + "\t", "a\t|b");
    }

    /** "127 and 8: the cluster ahead of the cursor goes. DELETE: that at the cursor goes." */
    private static void clustersThatGo() {
        for (String key : new String[] {Sitting.RUBOUT, "\010"}) {
            seen("in an empty text", key, "|");
            seen("at the beginning", "ab" + Sitting.HOME + key, "|ab");
            seen("behind the first one", "ab" + Sitting.LEFT + key, "|b");
            seen("at the end", "ab" + key, "a|");
            seen("the END OF LINE ahead", "a\rb" + Sitting.HOME + key, "a|b");
            seen("a cluster of three", "ab\u0301\u0302c" + Sitting.LEFT + key, "a|c");
            seen("the third MARK alone", "ab\u0301\u0302\u0303" + key, "ab\u0301\u0302|");
        }
        seen("DELETE in an empty text", Sitting.DELETE, "|");
        seen("DELETE at the end", "ab" + Sitting.DELETE, "ab|");
        seen("DELETE of the last one", "ab" + Sitting.LEFT + Sitting.DELETE, "a|");
        seen("DELETE of the first one", "ab" + Sitting.HOME + Sitting.DELETE, "|b");
        seen("DELETE of an END OF LINE", "a\rb" + Sitting.LEFT + Sitting.LEFT + Sitting.DELETE, "a|b");
        seen("DELETE of a cluster of three", "a\u0301\u0302\u0303" + Sitting.HOME + Sitting.DELETE, "|\u0303");
    }

    /** "LEFT, RIGHT: over one cluster. HOME, END: to the beginning or end of the line." */
    private static void movesAtTheEdges() {
        seen("LEFT at the beginning", "ab" + Sitting.HOME + Sitting.LEFT, "|ab");
        seen("LEFT from the second", "ab" + Sitting.LEFT + Sitting.LEFT, "|ab");
        seen("RIGHT at the end", "ab" + Sitting.RIGHT, "ab|");
        seen("RIGHT from the last", "ab" + Sitting.LEFT + Sitting.RIGHT, "ab|");
        seen("LEFT over an END OF LINE", "a\r" + Sitting.LEFT, "a|\n");
        seen("RIGHT over an END OF LINE", "a\r" + Sitting.LEFT + Sitting.RIGHT, "a\n|");
        String lines = "a\rbc\rd" + Sitting.HOME + Sitting.LEFT;
        seen("at the end of the line in the middle", lines, "a\nbc|\nd");
        seen("END there", lines + Sitting.END, "a\nbc|\nd");
        seen("HOME there", lines + Sitting.HOME, "a\n|bc\nd");
        seen("HOME at the line's beginning", lines + Sitting.HOME + Sitting.HOME, "a\n|bc\nd");
        seen("END at the line's beginning", lines + Sitting.HOME + Sitting.END, "a\nbc|\nd");
        seen("END of the last line", lines + Sitting.RIGHT + Sitting.END, "a\nbc\nd|");
        seen("HOME of the first line", lines + Sitting.HOME + Sitting.LEFT + Sitting.HOME, "|a\nbc\nd");
        seen("HOME and END of an empty line", "a\r\rb" + Sitting.HOME + Sitting.LEFT + Sitting.HOME + Sitting.END,
                "a\n|\nb");
        seen("HOME ahead of a MARK by itself", "a\r\u0301b" + Sitting.HOME, "a\n|\u0301b");
    }

    /** "10 like 13 unless the byte typed right ahead of it (a TICK is none) was 13" */
    private static void tenWhilePasting() {
        seen("10 first", Sitting.PASTE + "\n", "\n|");
        seen("10 behind 10", Sitting.PASTE + "\n\n", "\n\n|");
        seen("13", Sitting.PASTE + "\r", "\n|");
        seen("10 behind 13", Sitting.PASTE + "\r\n", "\n|");
        seen("10 behind 13 and 10", Sitting.PASTE + "\r\n\n", "\n\n|");
        seen("13 behind 13", Sitting.PASTE + "\r\r\n", "\n\n|");
        seen("a character between", Sitting.PASTE + "\ra\n", "\na\n|");
        seen("a byte between that is nothing", Sitting.PASTE + "\r\001\n", "\n\n|");
        seen("a key between that does nothing", Sitting.PASTE + "\r" + Sitting.LEFT + "\n", "\n\n|");
        seen("13 ahead of PASTING", "\r" + Sitting.PASTE + "\n", "\n\n|");
        seen("13 that breaks a mode", Sitting.PASTE + "\033\r\n", "\n|");
        seen("10 that breaks a mode", Sitting.PASTE + "\r\033\n", "\n\n|");
        Sitting s = new Sitting(8, 3);
        s.type(Sitting.PASTE + "\r");
        s.x.tick();
        Check.due("a TICK between", s.type("\n"), 1);
        s.x.tick();
        Check.due("10 behind 10 and a TICK", s.type("\n"), 2);
        s = new Sitting(8, 3);
        s.type(Sitting.PASTE);
        Check.due("in one call", s.x.type(0x0a0d0a0aL, 4), 3);
        Check.due("in the next call", s.x.type(0x0a, 1), 4);
    }

    /** "(The end of PASTING without its beginning is a key that does nothing.)" */
    private static void pastingEnds() {
        seen("the end alone", "a" + Sitting.PASTED + "b", "ab|");
        seen("10 outside PASTING", "a\nb\r\n", "ab\n|");
        seen("10 behind the end", Sitting.PASTE + "a" + Sitting.PASTED + "\n", "a|");
        seen("keys behind the end", Sitting.PASTE + "ab" + Sitting.PASTED + Sitting.LEFT, "a|b");
        seen("begun twice, ended once", Sitting.PASTE + Sitting.PASTE + "ab" + Sitting.PASTED + Sitting.LEFT, "a|b");
        Sitting s = new Sitting(8, 3);
        s.type("abc" + Sitting.MARK + Sitting.LEFT + Sitting.CUT + Sitting.MARK + Sitting.LEFT + Sitting.PASTE);
        String[] nothing = {"\000", "\010", "\014", "\027", "\031", "\032", "\177", "\033\033", Sitting.UP,
            Sitting.DOWN, Sitting.LEFT, Sitting.RIGHT, Sitting.HOME, Sitting.END, Sitting.DELETE, Sitting.PASTE};
        s.draw();
        for (int i = 0; i < nothing.length; i++) {
            s.type(nothing[i]);
            s.x.tick();
            Check.due("key " + i + " while PASTING", seen(s), "a|b");
            Check.due("key " + i + ": marked place", s.x.state(1), 3);
            Check.due("key " + i + ": CLIP", s.x.state(2), 1);
            Check.due("key " + i + ": changes", s.x.state(3), 4);
            Check.due("key " + i + ": PASTING", s.x.state(7), 1);
            Check.due("key " + i + ": drawing", s.draw(), "");
        }
    }

    /** "0: the MARKED place is the cursor. ESC: no place is marked." */
    private static void markedPlaces() {
        Sitting s = new Sitting(8, 3);
        s.type("\033\033");
        Check.due("ESC without one", s.x.state(1), 0);
        s.x.tick();
        s.type(Sitting.MARK);
        Check.due("in an empty text", s.x.state(1), 1);
        s.type("ab" + Sitting.MARK);
        Check.due("at the end", s.x.state(1), 3);
        s.type(Sitting.HOME + Sitting.MARK);
        Check.due("anew at the beginning", s.x.state(1), 1);
    }

    /** "a 23 without a marked place, or with nothing between, does nothing" */
    private static void cutsThatDoNothing() {
        Sitting s = new Sitting(8, 3);
        s.type("abc" + Sitting.CUT);
        Check.due("without a marked place", seen(s) + s.x.state(2) + s.x.state(3), "abc|03");
        s.type(Sitting.MARK + Sitting.CUT);
        Check.due("with nothing between", seen(s) + s.x.state(2) + s.x.state(3), "abc|03");
        Check.due("the marked place stays", s.x.state(1), 4);
        s.type(Sitting.LEFT + Sitting.CUT);
        Check.due("with one between", seen(s) + s.x.state(1) + s.x.state(2) + s.x.state(3), "ab|014");
        s.type(Sitting.CUT);
        Check.due("the marked place was lost", seen(s) + s.x.state(2), "ab|1");
        s.type(Sitting.MARK + Sitting.CUT);
        Check.due("the CLIP stays", s.x.state(2), 1);
        s.type("\033\033");
        s.x.tick();
        s.type(Sitting.HOME + Sitting.CUT);
        Check.due("ESC took the marked place", seen(s) + s.x.state(2), "|ab1");
    }

    /** "(The cursor is then where that began, with 23 at the lesser of the two places.)" */
    private static void cutsBothWays() {
        String four = "abcd" + Sitting.LEFT;
        seen("the cursor is the lesser", four + Sitting.MARK + Sitting.HOME + Sitting.RIGHT + Sitting.CUT, "a|d");
        seen("the marked place is the lesser", four + Sitting.HOME + Sitting.MARK + Sitting.END + Sitting.LEFT
                + Sitting.CUT, "|d");
        seen("all of it", four + Sitting.HOME + Sitting.MARK + Sitting.END + Sitting.CUT, "|");
    }

    /** "so does an insertion for which the text has no room, or of an empty CLIP" */
    private static void clipsAndRoom() {
        for (int length = 196; length <= 200; length++) {
            Sitting s = new Sitting(24, 8);
            s.type("xyz" + Sitting.MARK + Sitting.HOME + Sitting.CUT + times("a", length) + Sitting.MARK);
            boolean room = length <= 197;
            Check.due("a CLIP of 3 behind " + length, s.type(Sitting.YANK), room ? length + 3 : length);
            Check.due("the cursor behind " + length, s.cursor(), room ? length + 3 : length);
            Check.due("the marked place behind " + length, s.x.state(1), room ? 0 : length + 1);
            s.type(Sitting.UNDO);
            Check.due("undone behind " + length, s.x.text(length - 1), room ? 'a' : -1);
        }
        Sitting s = new Sitting(8, 3);
        s.type(Sitting.YANK + Sitting.MARK + Sitting.YANK);
        Check.due("of an empty CLIP", s.x.state(1) + "" + s.x.state(3), "10");
        s = new Sitting(24, 8);
        s.type(times("b", 200) + Sitting.MARK + Sitting.HOME + Sitting.CUT);
        Check.due("a CLIP of 200", s.x.state(2), 200);
        Check.due("has room in an empty text", s.type(Sitting.YANK), 200);
        s.type(Sitting.UNDO + "c");
        Check.due("and none beside one", s.type(Sitting.YANK), 1);
    }

    /** "at most 12 changes are kept, the earliest go" */
    private static void twelveChanges() {
        for (int count = 10; count <= 14; count++) {
            Sitting s = new Sitting(24, 3);
            s.type(times("a", count));
            Check.due(count + " changes", s.x.state(3), Math.min(12, count));
            s.type(times(Sitting.UNDO, 20));
            Check.due(count + " changes undone", s.text().length(), Math.max(0, count - 12));
            Check.due("none left of " + count, s.x.state(3), 0);
        }
        Sitting s = new Sitting(24, 3);
        s.type("abc" + times(Sitting.HOME + Sitting.DELETE + Sitting.END + "x", 20));
        s.type(times(Sitting.UNDO, 5) + "yz" + times(Sitting.UNDO, 3));
        Check.due("12, 5 undone, 2 made, 3 undone", s.x.state(3), 6);
    }

    /** What is kept of a change that went is not taken for what a later one in its stead is. */
    private static void changesInTurn() {
        Sitting s = new Sitting(24, 3);
        s.type("abcdefghijklmnop" + Sitting.RUBOUT.repeat(13) + "ABCDEFGHIJKLM");
        Check.due("13 gone, 13 come", seen(s), "abcABCDEFGHIJKLM|");
        s.type(Sitting.UNDO.repeat(12));
        Check.due("12 of those that came are undone", seen(s) + s.x.state(3), "abcA|0");
        s.type("BCD" + Sitting.RUBOUT.repeat(5) + Sitting.UNDO.repeat(4));
        Check.due("4 of those that went are back", seen(s) + s.x.state(3), "abcABC|4");
        s.type("x" + Sitting.HOME + Sitting.DELETE + Sitting.UNDO.repeat(3));
        Check.due("in turn", seen(s) + s.x.state(3), "abcABCD|3");
    }

    /** "26: UNDO: the latest change that was not undone is undone ... the cursor is where it was before" */
    private static void undoing() {
        seen("with nothing to undo", Sitting.UNDO, "|");
        seen("a character", "ab" + Sitting.HOME + Sitting.UNDO, "a|");
        seen("a 127", "ab" + Sitting.RUBOUT + Sitting.UNDO, "ab|");
        seen("a DELETE", "ab" + Sitting.HOME + Sitting.DELETE + Sitting.END + Sitting.UNDO, "|ab");
        seen("a 23 from its end", "abc" + Sitting.HOME + Sitting.MARK + Sitting.END + Sitting.CUT + Sitting.UNDO,
                "abc|");
        seen("a 23 from its beginning", "abc" + Sitting.MARK + Sitting.HOME + Sitting.CUT + Sitting.UNDO, "|abc");
        seen("a 25", "abc" + Sitting.MARK + Sitting.HOME + Sitting.CUT + "x" + Sitting.YANK + Sitting.UNDO, "x|");
        seen("an UNDO is no change", "abc" + Sitting.UNDO + Sitting.UNDO, "a|");
        seen("an insertion for which there is no room is no change", times("a", 200) + "b" + Sitting.UNDO,
                times("a", 199) + "|");
    }

    /** "With it, and with an UNDO that undoes something, the marked place is lost" */
    private static void marksLostOrKept() {
        String[] changes = {"x", "\r", "\t", Sitting.RUBOUT, "\010", Sitting.DELETE, Sitting.YANK, Sitting.UNDO,
            "\u0301"};
        for (int i = 0; i < changes.length; i++) {
            Sitting s = new Sitting(8, 3);
            s.type("abc" + Sitting.MARK + Sitting.LEFT + Sitting.CUT + Sitting.LEFT + Sitting.MARK + changes[i]);
            Check.due("lost with change " + i, s.x.state(1), 0);
        }
        String[] others = {Sitting.LEFT, Sitting.RIGHT, Sitting.HOME, Sitting.END, Sitting.UP, Sitting.DOWN,
            Sitting.REDRAW, Sitting.PASTE, Sitting.PASTED, "\n", "\001", Sitting.YANK, Sitting.UNDO};
        for (int i = 0; i < others.length; i++) {
            Sitting s = new Sitting(8, 3);
            s.type(Sitting.MARK + others[i]);
            Check.due("kept with key " + i, s.x.state(1), 1);
        }
    }

    /** "the cursor goes to the next one behind it that is" */
    private static void nextBeginning() {
        seen("one MARK behind", "\u0301" + Sitting.HOME + "a", "a\u0301|");
        seen("two MARKS behind", "\u0301\u0302" + Sitting.HOME + "a", "a\u0301\u0302|");
        seen("three MARKS behind", "\u0301\u0302\u0303" + Sitting.HOME + "a", "a\u0301\u0302|\u0303");
        seen("a TAB ahead of MARKS", "\u0301" + Sitting.HOME + "\t", "\t|\u0301");
        seen("a MARK ahead of MARKS", "\u0301" + Sitting.HOME + "\u0302", "\u0302|\u0301");
        seen("127 joins", "a\r\u0301" + Sitting.HOME + Sitting.RUBOUT, "a\u0301|");
        seen("127 joins one of two", "a\u0301\r\u0302\u0303" + Sitting.HOME + Sitting.RUBOUT, "a\u0301\u0302|\u0303");
        seen("127 joins none", "a\u0301\u0302\r\u0303" + Sitting.HOME + Sitting.RUBOUT, "a\u0301\u0302|\u0303");
        seen("DELETE joins", "a\r\u0301" + Sitting.HOME + Sitting.LEFT + Sitting.DELETE, "a\u0301|");
        seen("23 joins", "ab\t\u0301" + Sitting.LEFT + Sitting.MARK + Sitting.LEFT + Sitting.LEFT + Sitting.CUT,
                "a\u0301|");
        seen("25 joins", "b" + Sitting.MARK + Sitting.HOME + Sitting.CUT + "\u0301" + Sitting.HOME + Sitting.YANK,
                "b\u0301|");
        seen("UNDO parts them", "\u0301" + Sitting.HOME + "a" + Sitting.UNDO, "|\u0301");
        seen("a MARK joins again behind an UNDO", "a\u0301" + Sitting.HOME + Sitting.RIGHT + Sitting.UNDO + "\u0301",
                "a\u0301|");
    }

    /** "12: the next DRAWING is a full one." */
    private static void fullDrawing() {
        Sitting s = new Sitting(4, 2);
        s.draw();
        Check.due("none behind the first", s.draw(), "");
        s.type(Sitting.REDRAW + Sitting.REDRAW);
        Check.due("one behind two 12", s.draw().substring(0, 8), "^[0m^[2J");
        Check.due("and none behind it", s.draw(), "");
    }

    public static void main(String[] args) {
        insertions();
        clustersThatGo();
        movesAtTheEdges();
        tenWhilePasting();
        pastingEnds();
        markedPlaces();
        cutsThatDoNothing();
        cutsBothWays();
        clipsAndRoom();
        twelveChanges();
        changesInTurn();
        undoing();
        marksLostOrKept();
        nextBeginning();
        fullDrawing();
        Check.end();
    }
}
