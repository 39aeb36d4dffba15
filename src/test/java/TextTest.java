/** Promise 6. */
public final class TextTest {
    public static void main(String[] args) {
        Sitting s = new Sitting(8, 3);
        Check.due("text(0) of an empty text", s.x.text(0), -1);
        s.type("a\t\r\u4e2d\u0301\uffff");
        int[] due = {'a', 9, 10, 0x4e2d, 0x301, 0xffff};
        for (int place = 0; place < due.length; place++) {
            Check.due("text(" + place + ")", s.x.text(place), due[place]);
        }
        int[] none = {-1, 6, 7, 199, 200, 201, Integer.MIN_VALUE, Integer.MAX_VALUE};
        for (int place : none) {
            Check.due("text(" + place + ")", s.x.text(place), -1);
        }
        s.type(Sitting.RUBOUT);
        Check.due("what went is not there", s.x.text(5), -1);
        s.type(Sitting.HOME + "x");
        Check.due("inserted in the middle", s.text(), "a\t\nx\u4e2d\u0301");
        while (s.x.text(199) < 0) {
            s.type("z");
        }
        Check.due("text(199)", s.x.text(199), 0x301);
        Check.due("text(200)", s.x.text(200), -1);
        Check.end();
    }
}
