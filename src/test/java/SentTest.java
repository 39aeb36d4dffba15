/** Promise 11. */
public final class SentTest {
    private static void none(PaintEditor x, int count) {
        int[] wrong = {-1, count, count + 1, 2047, 2048, 4096, Integer.MIN_VALUE, Integer.MAX_VALUE};
        for (int k : wrong) {
            Check.due("sent(" + k + ")", x.sent(k), -1);
        }
    }

    private static void latestDrawing() {
        Sitting s = new Sitting(4, 2);
        none(s.x, 0);
        Check.due("draw", s.x.draw(), 26);
        int[] due = {27, '[', '0', 'm', 27, '[', '2', 'J', 13, 10, 27, '[', '0', ';', '7', 'm', '1', ':', '1', ' '};
        for (int k = 0; k < due.length; k++) {
            Check.due("sent(" + k + ")", s.x.sent(k), due[k]);
        }
        Check.due("sent(25)", s.x.sent(25), 'H');
        none(s.x, 26);
        s.type("a" + Sitting.REDRAW);
        s.x.size(6, 3);
        s.x.tick();
        Check.due("it stays until the next drawing", s.x.sent(8), 13);
        s.x.draw();
        Check.due("the next one", s.x.sent(8), 'a');
        s.x.draw();
        Check.due("one that sent nothing", s.x.sent(0), -1);
        none(s.x, 0);
    }

    private static void bytesOfCharacters() {
        Sitting s = new Sitting(10, 2);
        s.type("~\u00a0\u07ff\u0800\uffff\u4e2d\u1000");
        s.x.draw();
        int[] due = {126, 194, 160, 223, 191, 224, 160, 128, 239, 191, 191, 228, 184, 173, 225, 128, 128};
        for (int k = 0; k < due.length; k++) {
            Check.due("byte " + k, s.x.sent(8 + k), due[k]);
        }
    }

    /** MARKS by themselves cost the most bytes that a cell may cost. */
    private static void longestDrawing() {
        Sitting s = new Sitting(24, 8);
        for (int i = 0; i < 200; i++) {
            s.type("\u0301");
        }
        s.type(Sitting.MARK + Sitting.HOME);
        s.draw();
        Check.due("the last cell is lit", s.x.look(6, 23), 2);
        // 7 rows of 9 places of 6 bytes and 15 of 7, 168 MARKS of 2; looks, 13 and 10, the status, the cursor.
        int due = 8 + 6 + 7 * (9 * 6 + 15 * 7) + 168 * 2 + 2 + 6 + 24 + 6;
        Check.due("draw", s.x.draw(), 0);
        s.type(Sitting.REDRAW);
        Check.due("draw in full", s.x.draw(), due);
        Check.due("the last byte", s.x.sent(due - 1), 'H');
        none(s.x, due);
    }

    public static void main(String[] args) {
        latestDrawing();
        bytesOfCharacters();
        longestDrawing();
        Check.end();
    }
}
