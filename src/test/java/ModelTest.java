import java.util.Random;

/** Many runs of calls, the same each time, whose answers must be those of Model. */
public final class ModelTest {
    private final Random random;
    private final Typist typist;
    private final PaintEditor x;
    private final Model model;
    private final String run;
    private int columns;
    private int rows;

    private ModelTest(int seed) {
        random = new Random(seed);
        typist = new Typist(random);
        run = "run " + seed + ": ";
        columns = random.nextInt(5) == 0 ? random.nextInt(30) - 2 : 4 + random.nextInt(random.nextBoolean() ? 5 : 21);
        rows = random.nextInt(5) == 0 ? random.nextInt(14) - 2 : 2 + random.nextInt(7);
        x = new PaintEditor(columns, rows);
        model = new Model(columns, rows);
    }

    private void type(byte[] bytes) {
        for (int from = 0; from < bytes.length; from += 8) {
            int n = Math.min(8, bytes.length - from);
            // What lies above the n lowest bytes is not to be looked at.
            long packed = random.nextLong();
            for (int i = n - 1; i >= 0; i--) {
                packed = packed << 8 | bytes[from + i] & 255;
            }
            Check.due(run + "type(" + packed + "L, " + n + ")", x.type(packed, n), model.type(packed, n));
        }
    }

    private void resize() {
        columns = random.nextInt(4) == 0 ? random.nextInt(28) - 1 : 4 + random.nextInt(10);
        rows = random.nextInt(4) == 0 ? random.nextInt(11) - 1 : 2 + random.nextInt(7);
        Check.due(run + "size(" + columns + ", " + rows + ")", x.size(columns, rows), model.size(columns, rows));
    }

    private void draw() {
        int count = model.draw();
        Check.due(run + "draw()", x.draw(), count);
        for (int k = -1; k <= count; k++) {
            Check.due(run + "sent(" + k + ")", x.sent(k), model.sent(k));
        }
        Check.due(run + "the terminal shows the screen", model.shown(), true);
    }

    private void compareAll() {
        for (int what = -1; what <= 8; what++) {
            Check.due(run + "state(" + what + ")", x.state(what), model.state(what));
            Check.due(run + "terminal(" + what + ")", x.terminal(what), model.terminal(what));
        }
        for (int place = -1; place <= 200; place++) {
            Check.due(run + "text(" + place + ")", x.text(place), model.text(place));
        }
        for (int row = -1; row <= 8; row++) {
            for (int column = -1; column <= 24; column++) {
                Check.due(run + "cell(" + row + ", " + column + ")", x.cell(row, column), model.cell(row, column));
                Check.due(run + "look(" + row + ", " + column + ")", x.look(row, column), model.look(row, column));
            }
        }
    }

    private void go() {
        int taste = 6 + random.nextInt(10);
        for (int step = 0; step < 120 && Check.wrong() == 0; step++) {
            int kind = random.nextInt(40);
            if (kind < 26) {
                type(typist.somethingTyped(taste));
            } else if (kind < 36) {
                draw();
            } else if (kind < 37) {
                resize();
            } else if (kind < 39) {
                Check.due(run + "tick()", x.tick(), model.tick());
            } else {
                int n = random.nextBoolean() ? -random.nextInt(3) : 9 + random.nextInt(3);
                Check.due(run + "type(65, " + n + ")", x.type(65, n), -1);
            }
            compareAll();
        }
    }

    public static void main(String[] args) {
        int runs = args.length > 0 ? Integer.parseInt(args[0]) : 1500;
        for (int seed = 1; seed <= runs && Check.wrong() == 0; seed++) {
            new ModelTest(seed).go();
        }
        Check.end();
    }
}
