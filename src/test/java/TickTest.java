/** Promise 3. */
public final class TickTest {
    private static void inPlain() {
        Sitting s = new Sitting(8, 3);
        Check.due("tick of an empty text", s.x.tick(), 0);
        s.type("ab" + Sitting.MARK + Sitting.UP);
        Check.due("tick", s.x.tick(), 2);
        Check.due("the marked place stays", s.x.state(1), 3);
        Check.due("the GOAL stays", s.x.state(4), 3);
        Check.due("no change", s.x.state(3), 2);
    }

    private static void inEscape() {
        Sitting s = new Sitting(8, 3);
        s.type("ab" + Sitting.MARK + Sitting.UP + "\033");
        Check.due("ESC is not there yet", s.x.state(1), 3);
        Check.due("tick", s.x.tick(), 2);
        Check.due("ESC: no place is marked", s.x.state(1), 0);
        Check.due("ESC ends the GOAL", s.x.state(4), 0);
        Check.due("mode", s.x.state(6), 0);
        s.type("[A");
        Check.due("characters then", s.text(), "ab[A");
    }

    private static void inSequence() {
        Sitting s = new Sitting(8, 3);
        s.type("ab" + Sitting.MARK + Sitting.UP + "\033[3");
        Check.due("tick", s.x.tick(), 2);
        Check.due("no ESC", s.x.state(1), 3);
        Check.due("the GOAL stays", s.x.state(4), 3);
        Check.due("mode", s.x.state(6), 0);
        s.type("~");
        Check.due("a character then", s.text(), "ab~");
    }

    private static void withinCharacter() {
        Sitting s = new Sitting(8, 3);
        s.bytes('a', 226);
        Check.due("tick behind one byte", s.x.tick(), 2);
        s.bytes(226, 130);
        Check.due("tick behind two bytes", s.x.tick(), 3);
        Check.due("mode", s.x.state(6), 0);
        Check.due("text", s.text(), "a\ufffd\ufffd");
        Check.due("only once", s.x.tick(), 3);
        s.bytes(128);
        Check.due("the rest is looked at as a first byte", s.text(), "a\ufffd\ufffd\ufffd");
    }

    private static void whilePasting() {
        Sitting s = new Sitting(8, 3);
        s.type("a" + Sitting.MARK + Sitting.PASTE + "\033");
        s.x.tick();
        Check.due("ESC does nothing while PASTING", s.x.state(1), 2);
        Check.due("mode", s.x.state(6), 0);
        s.bytes(195);
        Check.due("65533 while PASTING", s.x.tick(), 2);
        Check.due("PASTING goes on", s.x.state(7), 1);
    }

    public static void main(String[] args) {
        inPlain();
        inEscape();
        inSequence();
        withinCharacter();
        whilePasting();
        Check.end();
    }
}
