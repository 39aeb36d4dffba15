/** Terms, characters and clusters: each sentence at its boundary and on both sides of it. */
public final class CharacterEdgesTest {
    private static void typed(String told, String due, int... bytes) {
        Sitting s = new Sitting(8, 3);
        s.bytes(bytes);
        Check.due(told, s.text(), due);
    }

    /** "CHARACTERS are codes: 9 TAB, 10 END OF LINE, 32 .. 126, and 160 .. 65535 but 55296 .. 57343." */
    private static void codesThatThereAre() {
        typed("8 is none", "", 8);
        typed("9", "\t", 9);
        typed("10, by 13", "\n", 13);
        typed("11 is none", "", 11);
        typed("31 is none", "", 31);
        typed("32", " ", 32);
        typed("33", "!", 33);
        typed("125", "}", 125);
        typed("126", "~", 126);
        typed("127 is none", "", 127);
        typed("128 is none", "", 194, 128);
        typed("159 is none", "", 194, 159);
        typed("160", "\u00a0", 194, 160);
        typed("161", "\u00a1", 194, 161);
        typed("55295", "\ud7ff", 237, 159, 191);
        typed("55296 is none", "\ufffd\ufffd\ufffd", 237, 160, 128);
        typed("57343 is none", "\ufffd\ufffd\ufffd", 237, 191, 191);
        typed("57344", "\ue000", 238, 128, 128);
        typed("65534", "\ufffe", 239, 191, 190);
        typed("65535", "\uffff", 239, 191, 191);
        typed("65536 is none", "\ufffd\ufffd\ufffd\ufffd", 240, 144, 128, 128);
    }

    /** The places over which LEFT goes from the text's end to its beginning. */
    private static void beginnings(String text, String due) {
        Sitting s = new Sitting(8, 3);
        s.type(text);
        StringBuilder all = new StringBuilder().append(s.cursor());
        for (int i = 0; i < 20 && s.cursor() > 0; i++) {
            s.type(Sitting.LEFT);
            all.append(' ').append(s.cursor());
        }
        Check.due("clusters of " + text.replace('\r', '/'), all.toString(), due);
    }

    /** "MARKS are 768 .. 879." */
    private static void marks() {
        beginnings("x\u02ff", "2 1 0");
        beginnings("x\u0300", "2 0");
        beginnings("x\u0301", "2 0");
        beginnings("x\u036e", "2 0");
        beginnings("x\u036f", "2 0");
        beginnings("x\u0370", "2 1 0");
    }

    /** "WIDE are 11904 .. 55203 and 65281 .. 65376." */
    private static void wide() {
        int[][] widths = {{11903, 1}, {11904, 2}, {11905, 2}, {55202, 2}, {55203, 2}, {55204, 1}, {55295, 1},
            {57344, 1}, {65280, 1}, {65281, 2}, {65282, 2}, {65375, 2}, {65376, 2}, {65377, 1}, {65535, 1}};
        for (int[] code : widths) {
            Sitting s = new Sitting(8, 2);
            s.type("a" + (char) code[0]);
            s.draw();
            Check.due("column behind " + code[0], s.x.terminal(1), 1 + code[1]);
            Check.due("cell of " + code[0], s.x.cell(0, 1), code[0]);
            Check.due("cell behind " + code[0], s.x.cell(0, 2), code[1] == 2 ? 0 : 32);
        }
    }

    /** "with as many MARKS behind it as there are, at most two" */
    private static void atMostTwo() {
        beginnings("xy", "2 1 0");
        beginnings("x\u0301y", "3 2 0");
        beginnings("x\u0301\u0302y", "4 3 0");
        beginnings("x\u0301\u0302\u0303y", "5 4 3 0");
        beginnings("x\u0301\u0302\u0303\u0304y", "6 5 4 3 0");
        beginnings("x\u0301\u0302\u0303\u0304\u0305y\u0306", "8 6 5 4 3 0");
        beginnings("\u4e2d\u0301\u0302\u0303", "4 3 0");
        beginnings(" \u0301", "2 0");
    }

    /** "(none belong to TAB and END OF LINE); other MARKS are clusters by themselves" */
    private static void marksByThemselves() {
        beginnings("\u0301", "1 0");
        beginnings("\u0301\u0302\u0303", "3 2 1 0");
        beginnings("a\t\u0301\u0302", "4 3 2 1 0");
        beginnings("a\r\u0301\u0302", "4 3 2 1 0");
        beginnings("a\t\u0301b\u0302", "5 3 2 1 0");
    }

    /** "TEXT: at most 200 characters." */
    private static void atMost200() {
        Sitting s = new Sitting(24, 8);
        for (int i = 0; i < 198; i++) {
            s.type("a");
        }
        Check.due("the 199th", s.type("b"), 199);
        Check.due("the 200th", s.type("c"), 200);
        Check.due("no 201st", s.type("d"), 200);
        Check.due("the last one", s.x.text(199), 'c');
        Check.due("none behind it", s.x.text(200), -1);
        Check.due("the cursor", s.cursor(), 200);
        Check.due("none of several bytes", s.type("\u4e2d"), 200);
        Check.due("no MARK", s.type("\u0301"), 200);
        Check.due("no 65533", s.bytes(255), 200);
        s.bytes(226);
        Check.due("no 65533 by a TICK", s.x.tick(), 200);
        Check.due("none in the middle", s.type(Sitting.HOME + "d"), 200);
        Check.due("the cursor stays there", s.cursor(), 0);
        Check.due("one goes", s.type(Sitting.DELETE), 199);
        Check.due("and one has room", s.type("e"), 200);
        Check.due("no more", s.type("f"), 200);
    }

    public static void main(String[] args) {
        codesThatThereAre();
        marks();
        wide();
        atMostTwo();
        marksByThemselves();
        atMost200();
        Check.end();
    }
}
