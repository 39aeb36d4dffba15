/** Promise 9. */
public final class LookTest {
    private static void noSuchCells() {
        PaintEditor x = new PaintEditor(5, 3);
        int[][] none = {{-1, 0}, {0, -1}, {3, 0}, {0, 5}, {2, 5}, {3, 4}, {7, 0}, {0, 23}, {Integer.MIN_VALUE, 0},
            {0, Integer.MIN_VALUE}, {Integer.MAX_VALUE, 0}, {0, Integer.MAX_VALUE}};
        for (int[] at : none) {
            Check.due("look(" + at[0] + ", " + at[1] + ")", x.look(at[0], at[1]), -1);
        }
        Check.due("the last cell", x.look(2, 4), 0);
    }

    private static void marked() {
        Sitting s = new Sitting(6, 5);
        s.type("ab\u4e2d\tc\rde");
        s.type(Sitting.MARK + Sitting.UP + Sitting.UP + Sitting.HOME + Sitting.RIGHT + Sitting.RIGHT);
        Check.due("the cursor", s.cursor(), 2);
        s.draw();
        Check.due("row 0: a wide one and a TAB", s.row(0) + s.looks(0), "ab\u4e2d_  002222");
        Check.due("row 1: c and its END", s.row(1) + s.looks(1), "c     220000");
        Check.due("row 2: not its END", s.row(2) + s.looks(2), "de    220000");
        Check.due("row 3", s.looks(3), "000000");
        Check.due("row 4: the status", s.looks(4), "111111");
        s.type("\033\033");
        s.draw();
        Check.due("ESC", s.looks(0) + s.looks(1) + s.looks(2), "000000000000000000");
    }

    private static void theOtherWay() {
        Sitting s = new Sitting(6, 3);
        s.type("abcd" + Sitting.HOME + Sitting.RIGHT + Sitting.MARK);
        s.draw();
        Check.due("nothing between", s.looks(0), "000000");
        s.type(Sitting.END + Sitting.LEFT);
        s.draw();
        Check.due("up to the cursor, without its cluster", s.looks(0), "022000");
        s.type(Sitting.HOME);
        s.draw();
        Check.due("from the cursor, without the marked one", s.looks(0), "200000");
    }

    private static void endOfFullRow() {
        Sitting s = new Sitting(4, 4);
        s.type("abcd\rx" + Sitting.MARK + Sitting.UP + Sitting.UP);
        s.draw();
        Check.due("the END in a row by itself", s.looks(0) + "/" + s.looks(1) + "/" + s.looks(2), "0222/2000/2000");
    }

    private static void unusedCell() {
        Sitting s = new Sitting(5, 4);
        s.type("abcd\u4e2d" + Sitting.MARK + Sitting.HOME);
        s.draw();
        Check.due("a cell that a wide one left is in LOOK 0", s.looks(0) + "/" + s.looks(1), "22220/22000");
    }

    public static void main(String[] args) {
        noSuchCells();
        marked();
        theOtherWay();
        endOfFullRow();
        unusedCell();
        Check.end();
    }
}
