/** Promise 10. */
public final class TerminalTest {
    private static void others() {
        PaintEditor x = new PaintEditor(8, 3);
        int[] none = {-1, 4, 5, Integer.MIN_VALUE, Integer.MAX_VALUE};
        for (int what : none) {
            Check.due("terminal(" + what + ")", x.terminal(what), -1);
        }
    }

    private static void placeAndLook() {
        Sitting s = new Sitting(8, 4);
        s.type("ab\rc");
        Check.due("before a drawing", s.place(), "0,0,0,0");
        s.draw();
        Check.due("the cursor's place, in the status' LOOK", s.place(), "1,1,0,1");
        s.type(Sitting.UP);
        Check.due("no key moves it", s.place(), "1,1,0,1");
        s.draw();
        Check.due("a drawing does", s.place(), "0,1,0,1");
        s.x.size(3, 3);
        s.draw();
        Check.due("a BLANK screen", s.place(), "0,0,0,0");
    }

    private static void looks() {
        // A status that stays as it is leaves the LOOK of the text.
        Sitting s = new Sitting(4, 3);
        for (int i = 0; i < 100; i++) {
            s.type("\r");
        }
        s.type("ab");
        s.draw();
        Check.due("the status has room for the line alone", s.row(2), "101:");
        s.type(Sitting.MARK + Sitting.LEFT);
        s.draw();
        Check.due("LOOK 2", s.place(), "1,1,0,2");
        s.type("\033\033");
        s.draw();
        Check.due("LOOK 0", s.place(), "1,1,0,0");
    }

    private static void margin() {
        Sitting s = new Sitting(4, 3);
        s.type("abcd" + Sitting.LEFT);
        s.draw();
        Check.due("the cursor in the last column ends being at the margin", s.place(), "0,3,0,1");
        s.type(Sitting.RIGHT);
        s.draw();
        Check.due("behind a full row", s.place(), "1,0,0,1");
    }

    public static void main(String[] args) {
        others();
        placeAndLook();
        looks();
        margin();
        Check.end();
    }
}
