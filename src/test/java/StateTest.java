/** Promise 7. */
public final class StateTest {
    private static void others() {
        PaintEditor x = new PaintEditor(8, 3);
        int[] none = {-1, 8, 9, Integer.MIN_VALUE, Integer.MAX_VALUE};
        for (int what : none) {
            Check.due("state(" + what + ")", x.state(what), -1);
        }
    }

    private static void each() {
        Sitting s = new Sitting(8, 2);
        s.type("ab\rcd");
        Check.due("0: the cursor", s.x.state(0), 5);
        Check.due("1: none", s.x.state(1), 0);
        s.type(Sitting.HOME + Sitting.MARK);
        Check.due("1: the marked place plus 1", s.x.state(1), 4);
        s.type(Sitting.END);
        Check.due("1: it stays when the cursor goes", s.x.state(1), 4);
        s.type(Sitting.CUT);
        Check.due("2: the CLIP", s.x.state(2), 2);
        Check.due("3: the changes", s.x.state(3), 6);
        s.type(Sitting.UNDO);
        Check.due("3: one less", s.x.state(3), 5);
        Check.due("4: no GOAL", s.x.state(4), 0);
        s.type(Sitting.UP);
        Check.due("4: the GOAL plus 1", s.x.state(4), 3);
        s.type(Sitting.HOME + Sitting.UP);
        Check.due("4: a GOAL of 0", s.x.state(4), 1);
        s.type(Sitting.DOWN);
        Check.due("5: TOP, which no key changes", s.x.state(5), 0);
        s.draw();
        Check.due("5: TOP", s.x.state(5), 1);
    }

    private static void mode(String told, int due, int... bytes) {
        Sitting s = new Sitting(8, 3);
        s.bytes(bytes);
        Check.due("6: " + told, s.x.state(6), due);
    }

    private static void modes() {
        mode("PLAIN", 0, 'a');
        mode("ESCAPE", 1, 27);
        mode("ESCAPE stays", 1, 27, 27);
        mode("SEQUENCE", 2, 27, '[');
        mode("SEQUENCE with digits", 2, 27, '[', '1', '2');
        mode("ESCAPE out of SEQUENCE", 1, 27, '[', '1', 27);
        mode("PLAIN behind a sequence", 0, 27, '[', '1', 'z');
        mode("PLAIN behind another byte", 0, 27, '[', '1', ' ');
        mode("PLAIN behind ESC a", 0, 27, 'a');
        mode("within, of two", 3, 194);
        mode("within, of three", 3, 239, 191);
        mode("within out of ESCAPE", 3, 27, 239);
        mode("within out of SEQUENCE", 3, 27, '[', 239);
        mode("within again", 3, 239, 239);
        mode("PLAIN behind a character", 0, 239, 191, 191);
        mode("PLAIN behind a byte that does not fit", 0, 239, 'a');
        mode("ESCAPE behind a byte that does not fit", 1, 239, 27);
        mode("PLAIN behind 193", 0, 193);
        mode("PLAIN behind 240", 0, 240);
    }

    private static void pasting() {
        Sitting s = new Sitting(8, 3);
        s.type("\033[201~");
        Check.due("7: no beginning", s.x.state(7), 0);
        s.type("\033[200~");
        Check.due("7: begun", s.x.state(7), 1);
        s.type("\033[200~");
        Check.due("7: begun twice", s.x.state(7), 1);
        s.type("\033[201~");
        Check.due("7: ended", s.x.state(7), 0);
        s.type("\033[200A\033[2000~\033[20~");
        Check.due("7: other sequences", s.x.state(7), 0);
    }

    public static void main(String[] args) {
        others();
        each();
        modes();
        pasting();
        Check.end();
    }
}
