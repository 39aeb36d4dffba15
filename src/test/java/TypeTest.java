/** Promise 2: bytes become keys, and keys change the text. */
public final class TypeTest {
    private static void numberOfBytes() {
        PaintEditor x = new PaintEditor(8, 3);
        Check.due("type(n 0)", x.type('a', 0), -1);
        Check.due("type(n 9)", x.type('a', 9), -1);
        Check.due("type(n -1)", x.type('a', -1), -1);
        Check.due("type(n least)", x.type('a', Integer.MIN_VALUE), -1);
        Check.due("type(n most)", x.type('a', Integer.MAX_VALUE), -1);
        Check.due("text after BAD", x.text(0), -1);
        Check.due("type of 8", x.type(0x6867666564636261L, 8), 8);
        Check.due("lowest first", x.text(0), 'a');
        Check.due("highest last", x.text(7), 'h');
        Check.due("only the lowest 2", x.type(0x7a7a7a7a7a7a4241L, 2), 10);
        Check.due("ninth", x.text(8), 'A');
        Check.due("the sign is a bit", x.type(0xbfbfefbdbfef6161L, 8), 14);
        Check.due("65533 from its bytes", x.text(12), 65533);
        Check.due("65535 at the end", x.text(13), 65535);
    }

    private static void typed(String told, String due, int... bytes) {
        Sitting s = new Sitting(8, 3);
        int answer = s.bytes(bytes);
        Check.due(told, s.text(), due);
        Check.due(told + ": length", answer, due.length());
    }

    private static void charactersOfSeveralBytes() {
        typed("least and most of one byte", " ~", 32, 126);
        typed("160", "\u00a0", 194, 160);
        typed("159 is nothing", "", 194, 159);
        typed("128 is nothing, then a", "a", 194, 128, 'a');
        typed("2047", "\u07ff", 223, 191);
        typed("2048", "\u0800", 224, 160, 128);
        typed("behind 224 160 or more", "\ufffd\ufffd", 224, 159);
        typed("55295", "\ud7ff", 237, 159, 191);
        typed("behind 237 159 or less", "\ufffd\ufffd\ufffd", 237, 160, 128);
        typed("57344", "\ue000", 238, 128, 128);
        typed("65535", "\uffff", 239, 191, 191);
        typed("the limits of 224 are of its next byte alone", "\u0800", 224, 160, 128);
        typed("the limits of 237 are of its next byte alone", "\ud03f", 237, 128, 191);
        typed("once for all of them", "\ufffda", 226, 130, 'a');
        typed("a first byte breaks a character", "\ufffd\u00a2", 226, 194, 162);
        typed("27 breaks a character", "\ufffd", 226, 27);
        typed("127 breaks a character, and is a key", "", 226, 127);
        typed("127 as a third byte", "a", 'a', 226, 130, 127);
        typed("192 as a third byte", "\ufffd\ufffd", 226, 130, 192);
        typed("192 breaks a character", "\ufffd\ufffd", 194, 192);
        typed("other bytes from 128 on", "\ufffd\ufffd\ufffd\ufffd\ufffd\ufffd", 128, 191, 192, 193, 240, 255);
        typed("bytes that are nothing", "", 1, 2, 3, 4, 5, 6, 7, 10, 11, 14, 15, 16, 17, 18, 19, 20, 21, 22, 24);
        typed("more bytes that are nothing", "", 28, 29, 30, 31);
    }

    private static void modes() {
        typed("ESC [ other", ";", 27, '[', '5', ';');
        typed("ESC [ final", "a", 27, '[', 'Z', 'a');
        typed("ESC [ [", "A", 27, '[', '[', 'A');
        typed("ESC [ 64", "a", 27, '[', 64, 'a');
        typed("ESC [ 63", "?a", 27, '[', 63, 'a');
        typed("ESC [ 127 is a rubout", "", 'a', 27, '[', 127);
        typed("ESC then a", "a", 27, 'a');
        typed("ESC ESC [ D", "ba", 'a', 27, 27, '[', 'D', 'b');
        typed("ESC [ ESC [ D", "ba", 'a', 27, '[', '1', 27, '[', 'D', 'b');
        typed("a character breaks a sequence", "\u00e9", 27, '[', '3', 0xc3, 0xa9);
        typed("the number begins at 0 anew", "a", 'a', 27, '[', '2', 27, '[', 'H', 27, '[', '~');
        typed("3~ with nothing at the cursor", "a", 'a', 27, '[', '3', '~');
        typed("3~ at a cluster", "b", 'a', 'b', 27, '[', 'H', 27, '[', '3', '~');
        typed("03~", "b", 'a', 'b', 27, '[', 'H', 27, '[', '0', '3', '~');
        typed("33~ is none", "ab", 'a', 'b', 27, '[', 'H', 27, '[', '3', '3', '~');
        typed("at most 9999", "ab", 'a', 'b', 27, '[', 'H', 27, '[', '1', '0', '0', '0', '3', '~');
    }

    private static void longNumbers() {
        Sitting s = new Sitting(8, 3);
        s.type("ab" + Sitting.HOME + "\033[4294967299~");
        Check.due("a number of more bits than an int has is not 3", s.text(), "ab");
        s.type("\033[42949672961000000000000000000003~");
        Check.due("a number of very many digits", s.text(), "ab");
        s.type("\033[7A\033[5C");
        Check.due("the number is nothing to RIGHT", s.cursor(), 1);
    }

    private static void keysThatMove() {
        Sitting s = new Sitting(8, 4);
        s.type("ab\u0301c\rd\u4e2d");
        Check.due("behind the last one", s.cursor(), 7);
        s.type(Sitting.RIGHT);
        Check.due("RIGHT at the end", s.cursor(), 7);
        s.type(Sitting.LEFT + Sitting.LEFT + Sitting.LEFT);
        Check.due("LEFT over an END OF LINE", s.cursor(), 4);
        s.type(Sitting.LEFT + Sitting.LEFT);
        Check.due("LEFT over a cluster of two", s.cursor(), 1);
        s.type(Sitting.RIGHT);
        Check.due("RIGHT over a cluster of two", s.cursor(), 3);
        s.type(Sitting.HOME);
        Check.due("HOME of the first line", s.cursor(), 0);
        s.type(Sitting.LEFT);
        Check.due("LEFT at the beginning", s.cursor(), 0);
        s.type(Sitting.END);
        Check.due("END of the first line", s.cursor(), 4);
        s.type(Sitting.END);
        Check.due("END again", s.cursor(), 4);
        s.type(Sitting.RIGHT + Sitting.END);
        Check.due("END of the last line", s.cursor(), 7);
        s.type(Sitting.HOME);
        Check.due("HOME of the last line", s.cursor(), 5);
    }

    private static void lineIsNoRow() {
        Sitting s = new Sitting(4, 4);
        s.type("abcdefghij" + Sitting.LEFT + Sitting.HOME);
        Check.due("HOME goes to the line's beginning", s.cursor(), 0);
        s.type(Sitting.END);
        Check.due("END goes to the line's end", s.cursor(), 10);
    }

    private static void rubout() {
        Sitting s = new Sitting(8, 3);
        s.type(Sitting.RUBOUT + "\010" + Sitting.DELETE);
        Check.due("nothing to go", s.x.state(3), 0);
        s.type("a\u0301\u0302\u0303b");
        s.type("\010");
        Check.due("8", s.text(), "a\u0301\u0302\u0303");
        s.type(Sitting.RUBOUT);
        Check.due("127: a MARK by itself", s.text(), "a\u0301\u0302");
        s.type(Sitting.RUBOUT);
        Check.due("127: a cluster of three", s.text(), "");
        s.type("\t\u0301" + Sitting.HOME + Sitting.DELETE);
        Check.due("no MARK belongs to a TAB", s.text(), "\u0301");
        s.type(Sitting.DELETE + "\r\u0301\u0302" + Sitting.RUBOUT);
        Check.due("no MARK belongs to an END OF LINE", s.text(), "\n\u0301");
    }

    private static void cursorLeavesClusters() {
        Sitting s = new Sitting(8, 3);
        s.type("\u0301\u0302\u0303" + Sitting.HOME + "a");
        Check.due("a before three MARKS", s.cursor(), 3);
        s.type(Sitting.UNDO);
        Check.due("and undone", s.cursor(), 0);
        s = new Sitting(8, 3);
        s.type("a\r\u0301b" + Sitting.LEFT + Sitting.LEFT + Sitting.RUBOUT);
        Check.due("127 joins a MARK", s.text() + s.cursor(), "a\u0301b2");
        s.type(Sitting.UNDO);
        Check.due("127 undone", s.text() + s.cursor(), "a\n\u0301b2");
        s.type(Sitting.LEFT + Sitting.DELETE);
        Check.due("DELETE joins a MARK", s.text() + s.cursor(), "a\u0301b2");
        s = new Sitting(8, 3);
        s.type("a\rxy" + Sitting.LEFT + "\u0301" + Sitting.LEFT);
        Check.due("over x and its MARK", s.cursor(), 2);
        s = new Sitting(8, 3);
        s.type("\u0301" + Sitting.HOME + "b" + Sitting.LEFT + Sitting.MARK + Sitting.RIGHT + Sitting.CUT + "\u0302");
        s.type(Sitting.HOME + Sitting.YANK);
        Check.due("the CLIP ahead of a MARK", s.text() + s.cursor(), "b\u0301\u03023");
    }

    private static void cutAndYank() {
        Sitting s = new Sitting(8, 3);
        s.type("abcdef" + Sitting.CUT);
        Check.due("23 without a marked place", s.x.state(3) + s.text(), "6abcdef");
        s.type(Sitting.YANK);
        Check.due("25 of an empty CLIP", s.x.state(3) + s.text(), "6abcdef");
        s.type(Sitting.MARK + Sitting.CUT);
        Check.due("23 with nothing between leaves the marked place", s.x.state(1), 7);
        s.type(Sitting.LEFT + Sitting.LEFT + Sitting.CUT);
        Check.due("23", s.text() + s.cursor() + s.x.state(1) + s.x.state(2), "abcd402");
        s.type(Sitting.HOME + Sitting.MARK + Sitting.CUT);
        Check.due("the CLIP stays", s.x.state(2), 2);
        s.type("\033\033" + Sitting.RIGHT + Sitting.CUT);
        Check.due("ESC: no place is marked", s.text(), "abcd");
        s.type(Sitting.YANK + Sitting.YANK);
        Check.due("25 twice", s.text() + s.cursor(), "aefefbcd5");
        s.type(Sitting.UNDO + Sitting.UNDO + Sitting.UNDO);
        Check.due("undone to the cursor of the 23", s.text() + s.cursor() + s.x.state(2), "abcdef42");
        s.type(Sitting.HOME + Sitting.MARK + Sitting.END + Sitting.CUT);
        Check.due("23 with the marked place ahead", s.text() + s.cursor() + s.x.state(2), "06");
        s.type(Sitting.UNDO);
        Check.due("undone", s.text() + s.cursor(), "abcdef6");
    }

    private static void marksAreLost() {
        Sitting s = new Sitting(8, 3);
        s.type("abc" + Sitting.MARK + Sitting.LEFT + "x");
        Check.due("by an insertion", s.x.state(1), 0);
        s.type(Sitting.MARK + Sitting.UNDO);
        Check.due("by an UNDO", s.x.state(1), 0);
        s.type(Sitting.MARK + Sitting.DELETE);
        Check.due("by DELETE", s.x.state(1), 0);
        s.type(Sitting.HOME + Sitting.MARK + Sitting.RUBOUT);
        Check.due("not by a 127 that takes nothing", s.x.state(1), 1);
        s.type(Sitting.YANK + Sitting.REDRAW + Sitting.END + "\r");
        Check.due("not by keys that change nothing, but by 13", s.x.state(1), 0);
        s = new Sitting(8, 3);
        s.type(Sitting.MARK + Sitting.UNDO);
        Check.due("not by an UNDO that undoes nothing", s.x.state(1), 1);
    }

    private static void undoTwelve() {
        Sitting s = new Sitting(8, 3);
        s.type("abcdefghijklmno");
        Check.due("12 changes are kept", s.x.state(3), 12);
        s.type(Sitting.HOME + Sitting.DELETE);
        Check.due("still 12", s.x.state(3), 12);
        for (int left = 11; left >= 0; left--) {
            s.type(Sitting.UNDO);
            Check.due("left to undo", s.x.state(3), left);
        }
        Check.due("the earliest stay", s.text() + s.cursor(), "abcd4");
        s.type(Sitting.HOME + Sitting.UNDO);
        Check.due("no more", s.text() + s.cursor(), "abcd0");
        s.type("x" + Sitting.UNDO + Sitting.UNDO);
        Check.due("an UNDO is no change", s.text() + s.cursor(), "abcd0");
        s.type(Sitting.END + "\t\r" + Sitting.UNDO);
        Check.due("each is a change", s.text() + s.cursor(), "abcd\t5");
    }

    private static void room() {
        Sitting s = new Sitting(24, 8);
        for (int i = 0; i < 199; i++) {
            s.type("a");
        }
        s.type(Sitting.MARK + Sitting.LEFT + Sitting.LEFT + Sitting.CUT + "bb" + Sitting.MARK);
        Check.due("199", s.text().length(), 199);
        s.type(Sitting.YANK);
        Check.due("no room for a CLIP of two", s.text().length(), 199);
        Check.due("the marked place stays", s.x.state(1), 200);
        Check.due("room for one", s.type("c"), 200);
        s.type(Sitting.MARK + Sitting.DOWN);
        Check.due("the GOAL", s.x.state(4) > 0, true);
        Check.due("no room", s.type("d"), 200);
        Check.due("but it ends the GOAL", s.x.state(4), 0);
        Check.due("the marked place stays again", s.x.state(1), 201);
        Check.due("no room for 13", s.type("\r"), 200);
        Check.due("no room for 9", s.type("\t"), 200);
        Check.due("the last one", s.x.text(199), 'c');
        s.type(Sitting.HOME + Sitting.CUT);
        Check.due("all is in the CLIP", s.x.state(2), 200);
        s.type(Sitting.YANK + Sitting.HOME);
        Check.due("all is back", s.text().length(), 200);
        s.type(Sitting.MARK + Sitting.END + Sitting.CUT + Sitting.UNDO + Sitting.UNDO + Sitting.UNDO);
        Check.due("all is undone", s.text().length(), 200);
    }

    private static void pasting() {
        Sitting s = new Sitting(8, 3);
        s.type("x" + Sitting.PASTE);
        Check.due("PASTING", s.x.state(7), 1);
        s.type("a\r\nb\nc\r\rd\te\n\n");
        Check.due("lines pasted", s.text(), "xa\nb\nc\n\nd\te\n\n");
        int cursor = s.cursor();
        int changes = s.x.state(3);
        s.type(Sitting.LEFT + Sitting.RUBOUT + Sitting.UNDO + Sitting.MARK + Sitting.YANK + Sitting.HOME + Sitting.UP
                + Sitting.PASTE + "\033\033" + Sitting.DELETE + "\010" + Sitting.REDRAW);
        Check.due("other keys do nothing", s.cursor(), cursor);
        Check.due("no change", s.x.state(3), changes);
        Check.due("no marked place", s.x.state(1), 0);
        Check.due("no GOAL", s.x.state(4), 0);
        s.type("\u4e2d" + Sitting.PASTED);
        Check.due("PASTING has ended", s.x.state(7), 0);
        s.type("\n");
        Check.due("10 is nothing then", s.text(), "xa\nb\nc\n\nd\te\n\n\u4e2d");
        s.type(Sitting.PASTED + "\r\n");
        Check.due("its end alone does nothing", s.text(), "xa\nb\nc\n\nd\te\n\n\u4e2d\n");
        s.type(Sitting.PASTE + "\n");
        Check.due("10 behind ~", s.text(), "xa\nb\nc\n\nd\te\n\n\u4e2d\n\n");
        s.type("\r");
        s.x.tick();
        s.type("\n");
        Check.due("a TICK is no byte", s.text(), "xa\nb\nc\n\nd\te\n\n\u4e2d\n\n\n");
        s.type("\r\001\n");
        Check.due("a byte that is nothing is a byte", s.text(), "xa\nb\nc\n\nd\te\n\n\u4e2d\n\n\n\n\n");
    }

    private static void redrawWhilePasting() {
        Sitting s = new Sitting(8, 3);
        s.draw();
        s.type(Sitting.PASTE + Sitting.REDRAW);
        Check.due("12 does nothing while PASTING", s.draw(), "");
    }

    private static void upAndDown() {
        Sitting s = new Sitting(6, 3);
        s.type("abcde\rf\r\u4e2d\u4e2d\u4e2dx" + Sitting.UP);
        Check.due("UP within a line that is folded", s.cursor(), 8);
        Check.due("the GOAL", s.x.state(4), 2);
        s.type(Sitting.UP);
        Check.due("UP to the END", s.cursor(), 7);
        s.type(Sitting.UP);
        Check.due("UP to the column", s.cursor(), 1);
        s.type(Sitting.UP);
        Check.due("no row ahead", s.cursor(), 1);
        s.type(Sitting.DOWN + Sitting.DOWN);
        Check.due("DOWN to the wide one whose column is not greater", s.cursor(), 8);
        s.type(Sitting.DOWN + Sitting.DOWN);
        Check.due("DOWN, and no row behind", s.cursor(), 12);
        s.type(Sitting.HOME + Sitting.LEFT + Sitting.UP);
        Check.due("UP to a row beside", s.cursor(), 1);
    }

    private static void goal() {
        Sitting s = new Sitting(8, 3);
        s.type("abc" + Sitting.DOWN);
        Check.due("the GOAL is there without a row", s.x.state(4), 4);
        String[] ending = {Sitting.LEFT, Sitting.RIGHT, Sitting.HOME, Sitting.END, Sitting.DELETE, Sitting.RUBOUT,
            "\010", Sitting.MARK, "\033\033", Sitting.CUT, Sitting.YANK, Sitting.UNDO, Sitting.REDRAW, "x", "\t", "\r",
            "\n", Sitting.PASTE, Sitting.PASTED, Sitting.PASTED, "\u4e2d", "\ufffd"};
        for (int i = 0; i < ending.length; i++) {
            s.x.tick();
            s.type(Sitting.UP);
            Check.due("GOAL ahead of key " + i, s.x.state(4) > 0 || s.x.state(7) == 1, true);
            s.type(ending[i]);
            Check.due("GOAL behind key " + i, s.x.state(4), 0);
        }
        s.type(Sitting.UP);
        int due = s.x.state(4);
        s.type("\001\002\037\033[Z\033[5~\u0085\033[");
        s.x.tick();
        Check.due("bytes that are no keys leave it", s.x.state(4), due);
        s.x.draw();
        s.x.size(9, 4);
        Check.due("drawings and sizes leave it", s.x.state(4), due);
        s.x.size(3, 4);
        int cursor = s.cursor();
        s.type(Sitting.UP + Sitting.DOWN);
        Check.due("with less than 4 columns it stays", s.x.state(4), due);
        Check.due("with less than 4 columns the cursor stays", s.cursor(), cursor);
        s.type(Sitting.LEFT + Sitting.UP);
        Check.due("with less than 4 columns there is no new one", s.x.state(4), 0);
        s.x.size(4, 1);
        s.type(Sitting.UP);
        Check.due("with one row there is", s.x.state(4) > 0, true);
    }

    private static void tabsInRows() {
        Sitting s = new Sitting(6, 4);
        s.type("\t\tx" + Sitting.UP);
        Check.due("the second TAB goes to the row's end", s.cursor(), 0);
        s.type(Sitting.END + Sitting.LEFT + Sitting.LEFT + Sitting.DOWN);
        Check.due("the x begins a row", s.cursor(), 3);
        Check.due("the GOAL is the TAB's column", s.x.state(4), 5);
    }

    public static void main(String[] args) {
        numberOfBytes();
        charactersOfSeveralBytes();
        modes();
        longNumbers();
        keysThatMove();
        lineIsNoRow();
        rubout();
        cursorLeavesClusters();
        cutAndYank();
        marksAreLost();
        undoTwelve();
        room();
        pasting();
        redrawWhilePasting();
        upAndDown();
        goal();
        tabsInRows();
        Check.end();
    }
}
