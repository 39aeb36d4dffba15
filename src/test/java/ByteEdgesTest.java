/** Terms, bytes and modes: every byte in every mode, and the edges of numbers and characters. */
public final class ByteEdgesTest {
    private static final String UNREADABLE = "\ufffd";

    private static boolean within(int b, int least, int most) {
        return b >= least && b <= most;
    }

    /** What a byte that is looked at as a first one makes of a text whose latest change was its last character. */
    private static String behindFirst(String text, int b) {
        if (b == 13) {
            return text + "\n";
        }
        if (b == 9 || within(b, 32, 126)) {
            return text + (char) b;
        }
        if (b == 127 || b == 8 || b == 26) {
            return text.substring(0, text.length() - 1);
        }
        return within(b, 128, 193) || b >= 240 ? text + UNREADABLE : text;
    }

    private static int modeBehindFirst(int b) {
        return b == 27 ? 1 : within(b, 194, 239) ? 3 : 0;
    }

    private static Sitting behind(int... bytes) {
        Sitting s = new Sitting(8, 3);
        s.type("ab" + Sitting.MARK);
        s.bytes(bytes);
        return s;
    }

    private static void due(String told, Sitting s, String text, int mode) {
        Check.due(told + ": text", s.text(), text);
        Check.due(told + ": mode", s.x.state(6), mode);
    }

    /** "PLAIN: 27: mode ESCAPE. 32 .. 126: that character. ... Other bytes from 128 on: the character 65533." */
    private static void plain() {
        for (int b = 0; b < 256; b++) {
            due("byte " + b, behind(b), behindFirst("ab", b), modeBehindFirst(b));
        }
    }

    /** "194 .. 223 one more, 224 .. 239 two more, each 128 .. 191 (behind 224 ... behind 237 ...)" */
    private static void secondBytes() {
        int[] firsts = {194, 195, 222, 223, 224, 225, 236, 237, 238, 239};
        for (int first : firsts) {
            int least = first == 224 ? 160 : 128;
            int most = first == 237 ? 159 : 191;
            for (int b = 0; b < 256; b++) {
                Sitting s = behind(first, b);
                String told = "byte " + b + " behind " + first;
                if (!within(b, least, most)) {
                    due(told, s, behindFirst("ab" + UNREADABLE, b), modeBehindFirst(b));
                } else if (first >= 224) {
                    due(told, s, "ab", 3);
                } else {
                    int code = (first - 192) * 64 + b - 128;
                    due(told, s, code < 160 ? "ab" : "ab" + (char) code, 0);
                }
            }
        }
    }

    /** The limits behind 224 and 237 are those of the next byte alone. */
    private static void thirdBytes() {
        int[][] firsts = {{224, 160}, {224, 191}, {225, 128}, {237, 128}, {237, 159}, {238, 191}, {239, 191}};
        for (int[] pair : firsts) {
            for (int b = 0; b < 256; b++) {
                Sitting s = behind(pair[0], pair[1], b);
                String told = "byte " + b + " behind " + pair[0] + " " + pair[1];
                if (within(b, 128, 191)) {
                    int code = (pair[0] - 224) * 4096 + (pair[1] - 128) * 64 + b - 128;
                    due(told, s, "ab" + (char) code, 0);
                } else {
                    due(told, s, behindFirst("ab" + UNREADABLE, b), modeBehindFirst(b));
                }
            }
        }
    }

    /** "codes 128 .. 159 are nothing" */
    private static void codesThatAreNothing() {
        Sitting s = new Sitting(8, 3);
        s.type("a" + Sitting.MARK + Sitting.UP);
        for (int b = 128; b <= 159; b++) {
            s.bytes(194, b);
        }
        due("194 with 128 .. 159", s, "a", 0);
        Check.due("the marked place stays", s.x.state(1), 2);
        Check.due("the GOAL stays", s.x.state(4), 2);
        Check.due("no change", s.x.state(3), 1);
        s.bytes(194, 160);
        due("194 with 160", s, "a\u00a0", 0);
    }

    /** "ESCAPE: 91: mode SEQUENCE ... 27: the key ESC, and the mode stays. Others: the key ESC; mode PLAIN" */
    private static void escape() {
        for (int b = 0; b < 256; b++) {
            Sitting s = behind(27, b);
            String told = "byte " + b + " behind 27";
            if (b == 91) {
                due(told, s, "ab", 2);
                Check.due(told + ": no ESC", s.x.state(1), 3);
            } else {
                due(told, s, behindFirst("ab", b), modeBehindFirst(b));
                // The byte 0 marks the place again.
                Check.due(told + ": ESC", s.x.state(1), b == 0 ? 3 : 0);
            }
        }
    }

    private static boolean leavesText(int b) {
        return behindFirst("ab", b).equals("ab");
    }

    /** "SEQUENCE: 48 .. 57 ... 64 .. 126: mode PLAIN, and a key ... 27: mode ESCAPE. Others: mode PLAIN" */
    private static void sequence() {
        for (int b = 0; b < 256; b++) {
            Sitting s = behind(27, 91, b);
            String told = "byte " + b + " behind 27 91";
            if (within(b, 48, 57)) {
                due(told, s, "ab", 2);
            } else if (within(b, 64, 126)) {
                due(told, s, "ab", 0);
                Check.due(told + ": cursor", s.cursor(), b == 'D' ? 1 : b == 'H' ? 0 : 2);
            } else {
                due(told, s, behindFirst("ab", b), modeBehindFirst(b));
            }
            if (within(b, 48, 57) || within(b, 64, 126) || leavesText(b)) {
                Check.due(told + ": no ESC", s.x.state(1), 3);
            }
        }
    }

    private static boolean deletes(String number) {
        Sitting s = new Sitting(8, 3);
        s.type("ab" + Sitting.HOME + "\033[" + number + "~");
        Check.due("mode behind " + number + "~", s.x.state(6), 0);
        return s.text().equals("b");
    }

    /** "the number becomes 10 times itself and the digit, at most 9999", "126 with the number 3 DELETE" */
    private static void numbers() {
        String[] three = {"3", "03", "0003", "0000000000000003"};
        for (String number : three) {
            Check.due(number + "~ is DELETE", deletes(number), true);
        }
        // The last ones are 3 in 16, 32 and 64 bits, or 9999 and 3 behind it.
        String[] others = {"", "0", "2", "4", "13", "30", "33", "103", "9999", "10000", "10003", "99993", "99999",
            "65539", "4294967299", "18446744073709551619", "42949672960000000003"};
        for (String number : others) {
            Check.due(number + "~ is none", deletes(number), false);
        }
    }

    /** The number is 0 again in a new SEQUENCE. */
    private static void newNumbers() {
        Check.due("ESC [ 3 ESC [ ~", deletes("3\033["), false);
        Check.due("ESC [ 2 ESC [ 3 ~", deletes("2\033[3"), true);
        Sitting s = new Sitting(8, 3);
        s.type("ab" + Sitting.HOME + "\033[3");
        s.x.tick();
        s.type("\033[~");
        Check.due("a TICK, then ESC [ ~", s.text(), "ab");
    }

    /** "200 PASTING begins, 201 it ends; others none" */
    private static void pastingNumbers() {
        String[] begins = {"199", "200", "201", "202", "0200", "2000", "20", "2", "1200", "9999"};
        for (String number : begins) {
            Sitting s = new Sitting(8, 3);
            s.type("\033[" + number + "~");
            Check.due(number + "~ begins", s.x.state(7), number.endsWith("200") && number.charAt(0) != '1' ? 1 : 0);
        }
        String[] ends = {"199", "200", "201", "202", "0201", "2010", "1201", "", "3"};
        for (String number : ends) {
            Sitting s = new Sitting(8, 3);
            s.type(Sitting.PASTE + "\033[" + number + "~");
            Check.due(number + "~ ends", s.x.state(7), number.equals("201") || number.equals("0201") ? 0 : 1);
        }
    }

    /** "A TICK: ESCAPE: the key ESC, mode PLAIN; SEQUENCE: mode PLAIN; within a character: 65533 comes." */
    private static void ticks() {
        int[][] ahead = {{}, {27}, {27, 27}, {27, 91}, {27, 91, 51}, {194}, {239}, {224, 160}, {239, 191}};
        for (int[] bytes : ahead) {
            Sitting s = behind(bytes);
            boolean character = bytes.length > 0 && bytes[0] >= 128;
            boolean escape = bytes.length > 0 && bytes[bytes.length - 1] == 27;
            String told = "a TICK behind " + bytes.length + " bytes";
            Check.due(told, s.x.tick(), character ? 3 : 2);
            due(told, s, character ? "ab" + UNREADABLE : "ab", 0);
            Check.due(told + ": marked place", s.x.state(1), character || escape ? 0 : 3);
            Check.due(told + ", another one", s.x.tick(), character ? 3 : 2);
        }
    }

    public static void main(String[] args) {
        plain();
        secondBytes();
        thirdBytes();
        codesThatAreNothing();
        escape();
        sequence();
        numbers();
        newNumbers();
        pastingNumbers();
        ticks();
        Check.end();
    }
}
