/** Promise 42. */
public final class CountTest {
    private final Due due = new Due("CountTest");

    public static void main(String[] args) {
        CountTest test = new CountTest();
        test.ofTheBay();
        test.ofTheRest();
        test.ofRefusals();
        test.ofAnotherWhat();
        test.due.end();
    }

    private void ofTheBay() {
        TowardTheLoudest bay = Due.told("s0515;s4820;s1800;q0;q2;h40;");
        due.is("count(0)", bay.count(0), 3);
        due.is("count(1)", bay.count(1), 0);
        due.is("count(2)", bay.count(2), 2);
        due.is("count(3)", bay.count(3), 5);
        // The CANNON draws it from 15 at 8, to 16; it has POWDER for no second time.
        due.is("count(4)", bay.count(4), 0);
        due.is("count(5)", bay.count(5), 22);
        bay.isle(0, 15);
        bay.hours(3);
        due.is("count(4)", bay.count(4), 3);
    }

    private void ofTheRest() {
        TowardTheLoudest bay = Due.told("s0515;");
        bay.feed('x');
        bay.feed('y');
        bay.row(1);
        bay.row(2);
        bay.row(3);
        bay.hushes(0);
        due.is("count(6)", bay.count(6), 2);
        due.is("count(7)", bay.count(7), 3);
        due.is("count(8)", bay.count(8), 1);
    }

    private void ofRefusals() {
        TowardTheLoudest bay = Due.told("s0515;");
        bay.hushes(1);
        bay.isleOf(9);
        bay.isleOf(9);
        for (int i = 0; i < 3; i++) {
            bay.back();
        }
        for (int i = 0; i < 4; i++) {
            bay.hours(0);
        }
        for (int i = 0; i < 6; i++) {
            bay.hours(100);
        }
        int[] want = {1, 2, 3, 4, 0, 6};
        for (int i = 0; i < 6; i++) {
            due.is("count(" + (11 + i) + ")", bay.count(11 + i), want[i]);
        }
        bay.mean(5);
        due.is("count(12), with one of longs", bay.count(12), 3);
        due.is("count(8), as refused ones leave nothing", bay.count(8), 0);
    }

    private void ofAnotherWhat() {
        TowardTheLoudest bay = Due.told("s0515;");
        for (int what : new int[] {-1, 9, 10, 17, 18, Integer.MAX_VALUE, Integer.MIN_VALUE}) {
            due.is("count(" + what + ")", bay.count(what), -9);
        }
        due.is("count(12), as that is no refusal", bay.count(12), 0);
    }
}
