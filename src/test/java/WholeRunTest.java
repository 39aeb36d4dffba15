import java.util.Random;

/**
 * "An object is used for at most 512 calls after it has been made": runs of 512 calls, of every method, in every
 * order, with any int and long in each place, whose answers must be those of Model. What is typed is cut into
 * calls anywhere, so that keys and characters go on from one call to the next.
 */
public final class WholeRunTest {
    private static final int CALLS = 512;
    private static final int[] FAR = {Integer.MIN_VALUE, Integer.MIN_VALUE + 1, -65536, -1, 65536,
        Integer.MAX_VALUE - 1, Integer.MAX_VALUE};

    private final Random random;
    private final Typist typist;
    private final String run;
    private final PaintEditor x;
    private final Model model;
    private final int taste;
    private byte[] waiting = {};
    private int taken;
    private int latestSent;

    private WholeRunTest(int seed) {
        random = new Random(seed);
        typist = new Typist(random);
        run = "run " + seed + ": ";
        taste = 6 + random.nextInt(10);
        int columns = any(1, 24);
        int rows = any(1, 8);
        x = new PaintEditor(columns, rows);
        model = new Model(columns, rows);
    }

    /** Most often one of those that may be or are next to them; sometimes any int at all. */
    private int any(int least, int most) {
        int kind = random.nextInt(16);
        if (kind == 0) {
            return random.nextInt();
        }
        if (kind == 1) {
            return FAR[random.nextInt(FAR.length)];
        }
        int wider = kind < 4 ? 2 : 0;
        return least - wider + random.nextInt(most - least + 1 + 2 * wider);
    }

    private int nextByte() {
        while (taken == waiting.length) {
            waiting = typist.somethingTyped(taste);
            taken = 0;
        }
        taken++;
        return waiting[taken - 1] & 255;
    }

    private void type() {
        int n = any(1, 8);
        long bytes = random.nextLong();
        if (random.nextInt(12) > 0 && n >= 1 && n <= 8) {
            for (int i = 0; i < n; i++) {
                bytes = bytes & ~(255L << 8 * i) | (long) nextByte() << 8 * i;
            }
        }
        Check.due(run + "type(" + bytes + "L, " + n + ")", x.type(bytes, n), model.type(bytes, n));
    }

    private void draw() {
        latestSent = x.draw();
        Check.due(run + "draw()", latestSent, model.draw());
    }

    private void size() {
        int columns = any(1, 24);
        int rows = any(1, 8);
        Check.due(run + "size(" + columns + ", " + rows + ")", x.size(columns, rows), model.size(columns, rows));
    }

    private void cellOrLook(boolean look) {
        int row = any(0, 7);
        int column = any(0, 23);
        String place = "(" + row + ", " + column + ")";
        if (look) {
            Check.due(run + "look" + place, x.look(row, column), model.look(row, column));
        } else {
            Check.due(run + "cell" + place, x.cell(row, column), model.cell(row, column));
        }
    }

    private void call() {
        int what = any(0, 9);
        switch (random.nextInt(24)) {
            case 0: size(); break;
            case 1: Check.due(run + "tick()", x.tick(), model.tick()); break;
            case 2: case 3: case 4: draw(); break;
            case 5: case 6: Check.due(run + "text(" + what + ")", x.text(what), model.text(what)); break;
            case 7: case 8: case 9: Check.due(run + "state(" + what + ")", x.state(what), model.state(what)); break;
            case 10: case 11: cellOrLook(false); break;
            case 12: cellOrLook(true); break;
            case 13: Check.due(run + "terminal(" + what + ")", x.terminal(what), model.terminal(what)); break;
            case 14: case 15:
                int k = any(0, latestSent);
                Check.due(run + "sent(" + k + ")", x.sent(k), model.sent(k));
                break;
            default: type(); break;
        }
    }

    public static void main(String[] args) {
        int runs = args.length > 0 ? Integer.parseInt(args[0]) : 500;
        for (int seed = 1; seed <= runs && Check.wrong() == 0; seed++) {
            WholeRunTest test = new WholeRunTest(seed);
            for (int calls = 0; calls < CALLS && Check.wrong() == 0; calls++) {
                test.call();
            }
        }
        Check.end();
    }
}
