/** Promise 1. */
public final class NewObjectTest {
    private static void sizes(int columns, int rows, int dueColumns, int dueRows) {
        String made = "new(" + columns + ", " + rows + ") ";
        PaintEditor x = new PaintEditor(columns, rows);
        Check.due(made + "last cell", x.cell(dueRows - 1, dueColumns - 1), 32);
        Check.due(made + "look of the last cell", x.look(dueRows - 1, dueColumns - 1), 0);
        Check.due(made + "cell behind the last column", x.cell(0, dueColumns), -1);
        Check.due(made + "cell behind the last row", x.cell(dueRows, 0), -1);
    }

    private static void nearestSizes() {
        sizes(10, 4, 10, 4);
        sizes(1, 1, 1, 1);
        sizes(24, 8, 24, 8);
        sizes(25, 9, 24, 8);
        sizes(0, 0, 1, 1);
        sizes(-7, 3, 1, 3);
        sizes(5, -1, 5, 1);
        sizes(Integer.MIN_VALUE, Integer.MAX_VALUE, 1, 8);
        sizes(Integer.MAX_VALUE, Integer.MIN_VALUE, 24, 1);
    }

    private static void allIsEmpty() {
        PaintEditor x = new PaintEditor(6, 3);
        Check.due("text(0)", x.text(0), -1);
        for (int what = 0; what <= 7; what++) {
            Check.due("state(" + what + ")", x.state(what), 0);
        }
        for (int what = 0; what <= 3; what++) {
            Check.due("terminal(" + what + ")", x.terminal(what), 0);
        }
        for (int row = 0; row < 3; row++) {
            for (int column = 0; column < 6; column++) {
                Check.due("cell", x.cell(row, column), 32);
                Check.due("look", x.look(row, column), 0);
            }
        }
        Check.due("sent(0)", x.sent(0), -1);
    }

    private static void objectsAreApart() {
        Sitting one = new Sitting(8, 3);
        Sitting other = new Sitting(8, 3);
        one.type("ab");
        one.draw();
        Check.due("text of another object", other.text(), "");
        Check.due("row of another object", other.row(2), "        ");
        Check.due("first drawing of another object", other.draw(), "^[0m^[2J^[3;1H^[0;7m1:1     ^[1;1H");
    }

    public static void main(String[] args) {
        nearestSizes();
        allIsEmpty();
        objectsAreApart();
        Check.end();
    }
}
