import java.nio.charset.StandardCharsets;
import java.util.Random;

/** Types what tells programs apart: characters of each kind, keys, and now and then what is neither. */
final class Typist {
    private static final String[] KEYS = {
        Sitting.UP, Sitting.DOWN, Sitting.RIGHT, Sitting.LEFT, Sitting.HOME, Sitting.END, Sitting.DELETE,
        Sitting.MARK, Sitting.CUT, Sitting.YANK, Sitting.UNDO, Sitting.RUBOUT, "\010", "\033\033", "\r", "\t"
    };
    private static final String[] CHARACTERS = {
        "a", "b", " ", "~", "\u00e9", "\u00a0", "\u4e2d", "\ud55c", "\uff01", "\uff60", "\uffff", "\u2e80", "\u2e7f",
        "\u0300", "\u0301", "\u036f", "\u0370", "\u02ff", "\t", "\r", "\r\n", "\ufffd", "   ", "\u1000", "\uf000"
    };
    private static final String[] RARE = {
        Sitting.PASTE, Sitting.PASTED, Sitting.REDRAW, "\n", "\033", "\033[", "\033[2", "\033[5A", "\033[99999999999~",
        "\033[0003~", "\033[[", "\033[;", "\033[z", "\u0085", "\001", "\037"
    };

    private final Random random;

    Typist(Random random) {
        this.random = random;
    }

    private String pick(String[] from) {
        return from[random.nextInt(from.length)];
    }

    /** Characters in taste of 20 cases, keys in most others. */
    byte[] somethingTyped(int taste) {
        int kind = random.nextInt(20);
        if (kind < taste) {
            StringBuilder made = new StringBuilder();
            for (int i = random.nextInt(4); i >= 0; i--) {
                made.append(pick(CHARACTERS));
            }
            return made.toString().getBytes(StandardCharsets.UTF_8);
        }
        if (kind < 18) {
            return pick(KEYS).getBytes(StandardCharsets.UTF_8);
        }
        if (kind < 19) {
            return pick(RARE).getBytes(StandardCharsets.UTF_8);
        }
        byte[] wild = new byte[1 + random.nextInt(4)];
        random.nextBytes(wild);
        return wild;
    }
}
