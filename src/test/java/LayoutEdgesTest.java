/** Terms, the layout: what fits in a row, what just does not, and the widths of TABS. */
public final class LayoutEdgesTest {
    /** Draws a text; its first rows, and the row and column of its END, where the cursor is. */
    private static void laid(int columns, String typed, String due) {
        Sitting s = new Sitting(columns, 5);
        s.type(typed);
        s.draw();
        String seen = s.row(0) + "/" + s.row(1) + "/" + s.row(2) + " " + s.x.terminal(0) + "," + s.x.terminal(1);
        Check.due("the layout of " + typed.replace("\t", "TAB").replace("\r", "EOL") + " in " + columns, seen, due);
    }

    /** "an END ... of width 1", "What has not its width left in a row begins a new one." */
    private static void narrowOnes() {
        laid(4, "", "    /    /     0,0");
        laid(4, "abc", "abc /    /     0,3");
        laid(4, "abcd", "abcd/    /     1,0");
        laid(4, "abcde", "abcd/e   /     1,1");
        laid(4, "abcdefg", "abcd/efg /     1,3");
        laid(4, "abcdefgh", "abcd/efgh/     2,0");
    }

    /** "the width is 2 for WIDE ones" */
    private static void wideOnes() {
        laid(5, "abc\u4e2d", "abc\u4e2d_/     /      1,0");
        laid(5, "ab\u4e2dc", "ab\u4e2d_c/     /      1,0");
        laid(5, "ab\u4e2d", "ab\u4e2d_ /     /      0,4");
        laid(5, "abcd\u4e2d", "abcd /\u4e2d_   /      1,2");
        laid(5, "abcde\u4e2d", "abcde/\u4e2d_   /      1,2");
        laid(4, "\u4e2d\u4e2d\u4e2d", "\u4e2d_\u4e2d_/\u4e2d_  /     1,2");
        laid(5, "\u4e2d\u4e2d\u4e2d", "\u4e2d_\u4e2d_ /\u4e2d_   /      1,2");
        laid(5, "\u4e2d\u4e2da\u4e2d", "\u4e2d_\u4e2d_a/\u4e2d_   /      1,2");
    }

    /** MARKS take no column behind a character, and one by themselves. */
    private static void marks() {
        laid(4, "abcd\u0301", "abcd/    /     1,0");
        laid(4, "abcd\u0301\u0302", "abcd/    /     1,0");
        laid(4, "abcd\u0301\u0302\u0303", "abcd/\u0303   /     1,1");
        laid(4, "\u0301\u0302", "\u0301\u0302  /    /     0,2");
    }

    /** "Each line begins a new one." */
    private static void lines() {
        laid(4, "a\r", "a   /    /     1,0");
        laid(4, "\r\r", "    /    /     2,0");
        laid(4, "abc\rd", "abc /d   /     1,1");
        laid(4, "abcd\re", "abcd/    /e    2,1");
        laid(4, "abcde\rf", "abcd/e   /f    2,1");
    }

    /** "a TAB goes up to the next column that is a multiple of 4, or the row's end if that is nearer" */
    private static void tabs() {
        laid(9, "\tx", "    x    /         /          0,5");
        laid(9, "a\tx", "a   x    /         /          0,5");
        laid(9, "abc\tx", "abc x    /         /          0,5");
        laid(9, "abcd\tx", "abcd    x/         /          1,0");
        laid(9, "abcde\tx", "abcde   x/         /          1,0");
        laid(9, "\t\t", "         /         /          0,8");
        laid(9, "\t\t\tx", "         /x        /          1,1");
        laid(8, "\t\tx", "        /x       /         1,1");
        laid(6, "abcd\tx", "abcd  /x     /       1,1");
        laid(7, "abcd\t", "abcd   /       /        1,0");
        laid(4, "\tx", "    /x   /     1,1");
    }

    /** "(a TAB: no column)": one column is enough, none begins a new row. */
    private static void tabsAtTheEnd() {
        laid(6, "abcde\tx", "abcde /x     /       1,1");
        laid(6, "abcdef\tx", "abcdef/    x /       1,5");
        laid(5, "abcd\tx", "abcd /x    /      1,1");
        laid(5, "abcde\t", "abcde/     /      1,4");
        laid(4, "abcd\t\tx", "abcd/    /     3,1");
        laid(8, "abcdefg\tx", "abcdefg /x       /         1,1");
        laid(8, "abcdefgh\tx", "abcdefgh/    x   /         1,5");
    }

    public static void main(String[] args) {
        narrowOnes();
        wideOnes();
        marks();
        lines();
        tabs();
        tabsAtTheEnd();
        Check.end();
    }
}
