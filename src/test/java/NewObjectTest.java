/** Promise 1. */
public final class NewObjectTest {
    public static void main(String[] args) {
        Due due = new Due("NewObjectTest");
        TowardTheLoudest bay = new TowardTheLoudest();
        int[] counts = {0, 8, 0, 0, 0, 0, 0, 0, 0, -9, -9, 0, 0, 0, 0, 0, 0};
        for (int what = 0; what < counts.length; what++) {
            due.is("count(" + what + ")", bay.count(what), counts[what]);
        }
        due.is("isleOf(0)", bay.isleOf(0), 15);
        due.is("isleOf(1)", bay.isleOf(1), 1);
        due.is("isleOf(2)", bay.isleOf(2), -9);
        due.is("shoreOf(0, 0)", bay.shoreOf(0, 0), -1);
        due.is("back()", bay.back(), -3);
        due.is("restore()", bay.restore(), -3);
        TowardTheLoudest other = new TowardTheLoudest();
        bay.shore(0, 5, 10);
        due.is("count(0) of another object", other.count(0), 0);
        due.end();
    }
}
