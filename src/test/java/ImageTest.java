/** Promises 40 and 41. */
public final class ImageTest {
    private final Due due = new Due("ImageTest");

    public static void main(String[] args) {
        ImageTest test = new ImageTest();
        test.restoresAllOfTheBay();
        test.leavesTheRest();
        test.laterImages();
        test.due.end();
    }

    private void restoresAllOfTheBay() {
        TowardTheLoudest bay = Due.told("s4830;s1710;q1;v2;");
        bay.hours(25);
        due.is("image()", bay.image(), 1);
        int[] before = all(bay);
        bay.shore(5, 1, 5);
        bay.hushes(0);
        bay.hushes(1);
        bay.powders(0, 50);
        bay.isle(0, 3);
        bay.isle(1, 5);
        bay.hours(99);
        due.is("restore()", bay.restore(), 1);
        same("restored", all(bay), before);
        due.is("count(8)", bay.count(8), 0);
        bay.hours(50);
        bay.hushes(1);
        due.is("restore(), a second time", bay.restore(), 1);
        same("restored again", all(bay), before);
    }

    private static int[] all(TowardTheLoudest bay) {
        int[] all = new int[6 + 3 + 16];
        for (int what = 0; what < 6; what++) {
            all[what] = bay.count(what);
        }
        for (int what = 0; what < 3; what++) {
            all[6 + what] = bay.isleOf(what);
        }
        for (int i = 0; i < 16; i++) {
            all[9 + i] = bay.shoreOf(i / 8, i % 8);
        }
        return all;
    }

    private void same(String when, int[] got, int[] want) {
        for (int i = 0; i < want.length; i++) {
            due.is("number " + i + ", " + when, got[i], want[i]);
        }
    }

    private void leavesTheRest() {
        TowardTheLoudest bay = Due.told("s0510;");
        due.is("restore() of none", bay.restore(), -3);
        due.is("count(13)", bay.count(13), 1);
        bay.hushes(0);
        bay.image();
        due.is("count(8), behind image()", bay.count(8), 1);
        bay.feed('q');
        bay.feed('0');
        bay.row(15);
        bay.row(14);
        bay.powders(9, 0);
        bay.hours(30);
        due.is("restore()", bay.restore(), 0);
        due.is("count(6)", bay.count(6), 2);
        due.is("count(7)", bay.count(7), 2);
        due.is("count(8)", bay.count(8), 0);
        due.is("back()", bay.back(), -3);
        due.is("count(11)", bay.count(11), 1);
        due.is("count(13)", bay.count(13), 2);
        bay.feed(';');
        due.is("bay() of letters fed before and behind it", bay.bay(), 1);
        due.is("QUIET, as it was told again", bay.shoreOf(0, 4), 0);
        due.is("restore(), with an image of before that", bay.restore(), 0);
        due.is("QUIET, as in the image", bay.shoreOf(0, 4), 1);
    }

    private void laterImages() {
        TowardTheLoudest bay = new TowardTheLoudest();
        due.is("image() of none", bay.image(), 0);
        bay.shore(0, 5, 10);
        bay.hours(90);
        due.is("image(), a second one", bay.image(), 4);
        bay.shore(0, 5, 11);
        due.is("restore()", bay.restore(), 4);
        due.is("count(0)", bay.count(0), 1);
        due.is("PLACE", bay.isleOf(0), 10);
        bay.back();
        due.is("count(13)", bay.count(13), 1);
    }
}
