/** Promise 4. */
public final class SizeTest {
    private static void wrongSizes() {
        Sitting s = new Sitting(6, 3);
        s.type("abc");
        s.draw();
        int[][] wrong = {{0, 3}, {25, 3}, {6, 0}, {6, 9}, {-1, -1}, {Integer.MAX_VALUE, 3}, {6, Integer.MIN_VALUE}};
        for (int[] size : wrong) {
            Check.due("size(" + size[0] + ", " + size[1] + ")", s.x.size(size[0], size[1]), false);
            Check.due("the place stays", s.place(), "0,3,0,1");
            Check.due("the columns stay", s.row(0).length(), 6);
            Check.due("the rows stay", s.x.cell(3, 0), -1);
            Check.due("the next drawing is no full one", s.draw(), "");
        }
    }

    private static void sizesThatMayBe() {
        int[][] right = {{1, 1}, {24, 8}, {1, 8}, {24, 1}, {7, 5}};
        PaintEditor x = new PaintEditor(6, 3);
        for (int[] size : right) {
            Check.due("size(" + size[0] + ", " + size[1] + ")", x.size(size[0], size[1]), true);
            Check.due("last cell", x.cell(size[1] - 1, size[0] - 1), 32);
            Check.due("behind the last column", x.cell(0, size[0]), -1);
            Check.due("behind the last row", x.cell(size[1], 0), -1);
        }
    }

    private static void cellsThatStay() {
        Sitting s = new Sitting(8, 3);
        s.type("ab\u4e2dcd\rx");
        s.draw();
        Check.due("shown first", s.row(0), "ab\u4e2d_cd  ");
        s.x.size(6, 4);
        Check.due("row 0", s.row(0), "ab\u4e2d_cd");
        Check.due("row 1", s.row(1), "x     ");
        Check.due("row 2", s.row(2), "2:2*  ");
        Check.due("looks of row 2", s.looks(2), "111111");
        Check.due("row 3", s.row(3), "      ");
        Check.due("looks of row 3", s.looks(3), "000000");
        s.x.size(3, 4);
        Check.due("a wide one without its second cell", s.row(0), "ab ");
        s.x.size(8, 1);
        s.x.size(8, 3);
        Check.due("what was cut does not come back", s.row(0), "ab      ");
        Check.due("nor in lower rows", s.row(2) + s.looks(2), "        00000000");
    }

    private static void halvedInItsLook() {
        Sitting s = new Sitting(6, 2);
        s.type("\u4e2d\u4e2d" + Sitting.MARK + Sitting.HOME);
        s.draw();
        Check.due("lit", s.looks(0), "222200");
        s.x.size(4, 2);
        Check.due("whole ones stay", s.row(0) + s.looks(0), "\u4e2d_\u4e2d_2222");
        s.x.size(3, 2);
        Check.due("half a one is BLANK", s.row(0) + s.looks(0), "\u4e2d_ 220");
        s.x.size(2, 2);
        Check.due("a whole one at the end stays", s.row(0) + s.looks(0), "\u4e2d_22");
        s.x.size(1, 2);
        Check.due("half a one in one column", s.row(0) + s.looks(0), " 0");
    }

    private static void placeAndNextDrawing() {
        Sitting s = new Sitting(6, 3);
        s.type("abc");
        s.draw();
        Check.due("ahead", s.place(), "0,3,0,1");
        Check.due("the same size", s.x.size(6, 3), true);
        Check.due("the place is 0, 0 and the LOOK stays", s.place(), "0,0,0,1");
        Check.due("the cells stay", s.row(0) + s.row(2), "abc   1:4*  ");
        Check.due("a full drawing", s.draw(), "^[0m^[2Jabc^[3;1H^[0;7m1:4*  ^[1;4H");
        Check.due("and none then", s.draw(), "");
    }

    private static void allElseStays() {
        Sitting s = new Sitting(6, 2);
        s.type("a\rb\rc\rd" + Sitting.MARK + Sitting.UP + "\033");
        s.draw();
        Check.due("TOP", s.x.state(5), 2);
        s.x.size(7, 8);
        Check.due("TOP stays", s.x.state(5), 2);
        Check.due("the GOAL stays", s.x.state(4), 2);
        Check.due("the mode stays", s.x.state(6), 1);
        Check.due("the marked place stays", s.x.state(1), 8);
        Check.due("the cursor stays", s.cursor(), 5);
        s.draw();
        Check.due("TOP stays at a drawing with room above", s.x.state(5), 2);
        Check.due("the first row is the third one", s.row(0), "c      ");
    }

    private static void atTheMargin() {
        // The terminal is left at the margin only within a drawing: a new size and a drawing end it.
        Sitting s = new Sitting(4, 2);
        s.type("abcd" + Sitting.LEFT);
        s.draw();
        Check.due("at the last column", s.place(), "0,3,0,1");
        s.x.size(4, 2);
        Check.due("not at the margin", s.place(), "0,0,0,1");
    }

    public static void main(String[] args) {
        wrongSizes();
        sizesThatMayBe();
        cellsThatStay();
        halvedInItsLook();
        placeAndNextDrawing();
        allElseStays();
        atTheMargin();
        Check.end();
    }
}
