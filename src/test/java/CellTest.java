/** Promise 8. */
public final class CellTest {
    private static void noSuchCells() {
        PaintEditor x = new PaintEditor(5, 3);
        int[][] none = {{-1, 0}, {0, -1}, {3, 0}, {0, 5}, {2, 5}, {3, 4}, {-1, -1}, {7, 0}, {0, 23},
            {Integer.MIN_VALUE, 0}, {0, Integer.MIN_VALUE}, {Integer.MAX_VALUE, 0}, {0, Integer.MAX_VALUE},
            {178956970, 0}};
        for (int[] at : none) {
            Check.due("cell(" + at[0] + ", " + at[1] + ")", x.cell(at[0], at[1]), -1);
        }
        Check.due("the last cell", x.cell(2, 4), 32);
    }

    private static void clusters() {
        Sitting s = new Sitting(12, 3);
        s.type("a\u4e2d\u00e9b\u0300c\u036f\u036f\uff60\u036fd");
        Check.due("not before a drawing", s.row(0), "            ");
        s.draw();
        int[] due = {'a', 0x4e2d, 0, 0xe9, 'b' + 65536, 'c' + 65536 * 112 + 8388608 * 112, 0xff60 + 65536 * 112, 0,
            'd', 32, 32, 32};
        for (int column = 0; column < due.length; column++) {
            Check.due("cell(0, " + column + ")", s.x.cell(0, column), due[column]);
        }
        Check.due("the row between", s.row(1), "            ");
        Check.due("the status", s.row(2), "1:10*       ");
    }

    private static void widths() {
        int[][] codes = {{11903, 1}, {11904, 2}, {55203, 2}, {55204, 1}, {65280, 1}, {65281, 2}, {65376, 2}, {65377, 1},
            {767, 1}, {880, 1}, {160, 1}, {65533, 1}};
        for (int[] code : codes) {
            Sitting s = new Sitting(6, 2);
            s.type((char) code[0] + "x");
            s.draw();
            Check.due("width of " + code[0], s.x.cell(0, code[1]), 'x');
            Check.due("cell of " + code[0], s.x.cell(0, 0), code[0]);
        }
    }

    private static void marks() {
        int[][] codes = {{767, 0}, {768, 1}, {879, 1}, {880, 0}};
        for (int[] code : codes) {
            Sitting s = new Sitting(6, 2);
            s.type("x" + (char) code[0]);
            s.draw();
            Check.due(code[0] + " joins", s.x.cell(0, 0) > 65535 ? 1 : 0, code[1]);
        }
    }

    public static void main(String[] args) {
        noSuchCells();
        clusters();
        widths();
        marks();
        Check.end();
    }
}
