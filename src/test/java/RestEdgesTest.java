import java.util.ArrayList;
import java.util.List;
import java.util.function.Consumer;

/** Of what is taken back, shared, told by fractions, and of THE IMAGE, word by word: III and IV. */
public final class RestEdgesTest {
    private final Due due = new Due("RestEdgesTest");

    public static void main(String[] args) {
        RestEdgesTest test = new RestEdgesTest();
        test.takenBack();
        test.eachCounts();
        test.eightAtMost();
        test.goesOnBehindBack();
        test.leavesNone();
        test.nearest();
        test.shared();
        test.joyless();
        test.loudHour();
        test.calm();
        test.mean();
        test.gap();
        test.image();
        test.imageLeaves();
        test.fractions();
        test.due.end();
    }

    /** All of I: what Whole.now() sees but letters, the ROW and what can be TAKEN BACK. */
    private static List<Integer> bayOf(TowardTheLoudest bay) {
        List<Integer> seen = new ArrayList<>(Whole.now(bay));
        seen.subList(6, 9).clear();
        return seen;
    }

    private void takenBack() {
        due.says("What powders(), hushes(), isle(), hours() changed can be TAKEN BACK");
        TowardTheLoudest bay = Due.told("s4820;s0510;h01;v2;");
        List<Integer> first = bayOf(bay);
        bay.powders(0, 99);
        List<Integer> second = bayOf(bay);
        bay.hushes(1);
        List<Integer> third = bayOf(bay);
        bay.isle(0, 20);
        List<Integer> fourth = bayOf(bay);
        bay.isle(1, 5);
        List<Integer> fifth = bayOf(bay);
        due.is("hours(99)", bay.hours(99), 20);
        List<List<Integer>> want = List.of(fifth, fourth, third, second, first);
        for (int left = 4; left >= 0; left--) {
            due.is("back()", bay.back(), left);
            due.holds("all is as it was: " + bayOf(bay), bayOf(bay).equals(want.get(4 - left)));
        }
        due.is("back() of none", bay.back(), -3);
        due.holds("all is as it was", bayOf(bay).equals(first));
    }

    private void counts(TowardTheLoudest bay, int count, String call, long answer, long want) {
        due.is(call, answer, want);
        due.is("count(8) behind " + call, bay.count(8), count);
    }

    private void eachCounts() {
        due.says("(each that is not refused counts, also if all stays as it was),");
        TowardTheLoudest bay = Due.told("s0515;s0010;");
        counts(bay, 0, "powders(2, 9)", bay.powders(2, 9), -1);
        counts(bay, 0, "powders(0, 100)", bay.powders(0, 100), -6);
        counts(bay, 0, "hushes(2)", bay.hushes(2), -1);
        counts(bay, 0, "isle(0, 31)", bay.isle(0, 31), -6);
        counts(bay, 0, "isle(2, 1)", bay.isle(2, 1), -2);
        counts(bay, 0, "hours(0)", bay.hours(0), -4);
        counts(bay, 0, "hours(100)", bay.hours(100), -6);
        counts(bay, 1, "powders(0, 9), as it was", bay.powders(0, 9), 9);
        counts(bay, 2, "isle(0, 15), as it was", bay.isle(0, 15), 15);
        counts(bay, 3, "isle(1, 1), as it was", bay.isle(1, 1), 1);
        counts(bay, 4, "hushes(1)", bay.hushes(1), 1);
        counts(bay, 5, "hushes(1), as it was ere that", bay.hushes(1), 0);
        counts(bay, 6, "hours(1)", bay.hours(1), 15);
        // What is asked, letters, the ROW and an image do not count.
        bay.feed('q');
        bay.row(1);
        bay.image();
        bay.clear();
        bay.first(0);
        bay.lots(3, 3, 0);
        due.is("count(8)", bay.count(8), 6);
        counts(bay, 5, "back()", bay.back(), 5);
        due.is("HOUR", bay.count(1), 8);
        due.is("JOY", bay.count(4), 0);
    }

    private void eightAtMost() {
        due.says("the latest first, 8 at most (older ones no more;");
        TowardTheLoudest bay = Due.told("s0515;");
        for (int i = 1; i <= 8; i++) {
            bay.powders(0, i);
            due.is("count(8)", bay.count(8), i);
        }
        for (int left = 7; left >= 0; left--) {
            due.is("back()", bay.back(), left);
            due.is("POWDER", bay.shoreOf(0, 3), left == 0 ? 9 : left);
        }
        due.is("back(), the ninth", bay.back(), -3);
        // Of each number of changes the last 8.
        for (int changes = 9; changes <= 20; changes++) {
            TowardTheLoudest more = Due.told("s0515;");
            for (int i = 1; i <= changes; i++) {
                more.powders(0, i);
            }
            due.is("count(8) behind " + changes, more.count(8), 8);
            for (int i = 1; i <= 8; i++) {
                due.is("back()", more.back(), 8 - i);
                due.is("POWDER, " + i + " of " + changes + " taken back", more.shoreOf(0, 3), changes - i);
            }
            due.is("back(), an older one", more.back(), -3);
            due.is("POWDER", more.shoreOf(0, 3), changes - 8);
        }
    }

    private void goesOnBehindBack() {
        TowardTheLoudest bay = Due.told("s0515;");
        for (int i = 1; i <= 12; i++) {
            bay.powders(0, i);
        }
        for (int i = 0; i < 5; i++) {
            bay.back();
        }
        due.is("POWDER", bay.shoreOf(0, 3), 7);
        for (int i = 50; i < 56; i++) {
            bay.powders(0, i);
        }
        due.is("count(8)", bay.count(8), 8);
        int[] want = {54, 53, 52, 51, 50, 7, 6, 5};
        for (int v : want) {
            bay.back();
            due.is("POWDER", bay.shoreOf(0, 3), v);
        }
        due.is("back() of none", bay.back(), -3);
    }

    private void leaves(String call, int count, Consumer<TowardTheLoudest> done) {
        TowardTheLoudest bay = Due.told("s0010;");
        bay.image();
        bay.hushes(0);
        bay.hushes(0);
        bay.isle(0, 9);
        done.accept(bay);
        due.is("count(8) behind " + call, bay.count(8), count);
        due.is("back() behind " + call, bay.back(), count == 0 ? -3 : count - 1);
    }

    private void leavesNone() {
        due.says("shore(), a BAY without FAULT, restore(), where they are not refused, leave none).");
        leaves("shore()", 0, bay -> bay.shore(0, 5, 11));
        leaves("shore() with a SHORE there", 3, bay -> bay.shore(0, 5, 10));
        leaves("shore() of no KIND", 3, bay -> bay.shore(6, 5, 11));
        leaves("a BAY", 0, bay -> Due.tell(bay, "v1;"));
        leaves("a BAY with FAULT 1", 3, bay -> Due.tell(bay, "v1"));
        leaves("a BAY with FAULT 2", 3, bay -> Due.tell(bay, "v1;v6;"));
        leaves("no letters", 3, bay -> bay.bay());
        leaves("restore()", 0, bay -> bay.restore());
        leaves("image()", 3, bay -> bay.image());
        TowardTheLoudest bay = Due.told("s0010;");
        bay.hushes(0);
        due.is("restore() of none", bay.restore(), -3);
        due.is("count(8)", bay.count(8), 1);
        due.is("back()", bay.back(), 0);
        due.is("QUIET", bay.shoreOf(0, 4), 0);
    }

    private void nearestIs(String text, int shore, int far) {
        due.is(text + " nearest(0)", Due.told(text).nearest(0), shore);
        due.is(text + " nearest(1)", Due.told(text).nearest(1), far);
    }

    private void nearest() {
        due.says("NEAREST: the SHORE nearest to THE ISLE, of several the least; -9; how far.");
        nearestIs("v1;", -9, -9);
        nearestIs("s0015;", 0, 0);
        nearestIs("s0000;i30;", 0, 30);
        nearestIs("s0030;i00;", 0, 30);
        nearestIs("s0010;s0020;", 0, 5);
        nearestIs("s0020;s0010;", 0, 5);
        nearestIs("s0009;s0020;s0010;", 1, 5);
        nearestIs("s0020;s0011;", 1, 4);
        nearestIs("s0000;s0001;s0002;s0003;s0004;s0005;s0006;", 6, 9);
        // However loud, and QUIET or not.
        nearestIs("s0914;s0015;", 1, 0);
        nearestIs("s0920;s0014;q1;", 1, 1);
    }

    private void sharedIs(String text, int each, int left, int joyless) {
        TowardTheLoudest bay = Due.told(text);
        due.is(text + " shared(0)", bay.shared(0), each);
        due.is(text + " shared(1)", bay.shared(1), left);
        due.is(text + " shared(2)", bay.shared(2), joyless);
    }

    private void shared() {
        due.says("SHARED: all JOY over how many SHORES there are, cut, and how much is left over (0 without).");
        sharedIs("v1;", 0, 0, 0);
        sharedIs("h99;", 0, 0, 0);
        sharedIs("s0015;", 0, 0, 1);
        sharedIs("s0015;h99;", 99, 0, 0);
        sharedIs("s0015;s0010;h99;", 49, 1, 2);
        sharedIs("s0015;s0010;h98;", 49, 0, 2);
        sharedIs("s0015;s0010;s0011;h02;", 0, 2, 6);
        sharedIs("s0015;s0010;s0011;h03;", 1, 0, 6);
        String seven = "s0000;s0001;s0002;s0003;s0004;s0005;s0015;";
        sharedIs(seven + "h06;", 0, 6, 63);
        sharedIs(seven + "h07;", 1, 0, 63);
        sharedIs(seven + "h99;", 14, 1, 63);
    }

    private void joyless() {
        due.says("JOYLESS: SHORES (bits) of JOY 0.");
        sharedIs("s0000;s0015;s0001;h01;", 0, 1, 5);
        sharedIs("s0000;s0015;s0001;h01;i00;h01;", 0, 2, 4);
        sharedIs("s0000;s0015;s0001;h01;i00;h01;i01;h01;", 1, 0, 0);
        sharedIs("s0000;s0001;s0002;s0003;s0004;s0005;s0006;", 0, 0, 127);
        // Who HAS it now and had it for no hour is JOYLESS.
        sharedIs("s0000;s0015;", 0, 0, 3);
    }

    private void loudHourIs(String text, int hour, int calm) {
        due.is(text + " loudHour(0)", Due.told(text).loudHour(0), hour);
        due.is(text + " loudHour(1)", Due.told(text).loudHour(1), calm);
    }

    private void loudHour() {
        due.says("LOUD HOUR: the hour with most NOISE together, as all is now, of several the least.");
        loudHourIs("v1;", 0, 0xffffff);
        loudHourIs("s0510;", 0, 0);
        for (int figure = 0; figure <= 9; figure++) {
            loudHourIs("s4" + figure + "10;", figure, 0xffffff & ~(1 << figure | 1 << figure + 12));
        }
        loudHourIs("s1010;", 0, 0xaaaaaa);
        loudHourIs("s3010;", 10, 0xaaaaaa);
        // All together: a CHOIR's 24 and a CANNON's 30 are at 18, 20 and 6, 8 alone more than each.
        loudHourIs("s3910;s4811;", 20, 0xaaaaaa);
        loudHourIs("s3910;s4611;", 18, 0xaaaaaa);
        loudHourIs("s3910;s4911;", 9, 0xaaaaaa & ~(1 << 9 | 1 << 21));
        // As all is now, with POWDER for one time as for two.
        loudHourIs("s4510;p005;", 5, 0xffffff & ~(1 << 5 | 1 << 17));
        loudHourIs("s4510;p004;", 0, 0xffffff);
        loudHourIs("s4510;s0011;q0;", 0, 0xffffff);
        loudHourIs("s4515;s1011;", 0, 0xaaaaaa);
    }

    private void calm() {
        due.says("CALM: hours (0 .. 23, bits) at which no SHORE has NOISE, as all is now.");
        loudHourIs("s0010;", 0, 0xffffff);
        loudHourIs("s0010;s1111;", 0, 0xaaaaaa);
        loudHourIs("s5010;s1111;", 0, 0);
        loudHourIs("s5015;s1111;", 0, 0xaaaaaa);
        loudHourIs("s1715;s1711;p100;", 0, 0xffffff);
        loudHourIs("s1714;s1711;p100;", 0, 0xaaaaaa);
    }

    private void meanIs(String text, long above, long below) {
        due.is(text + " mean(0)", Due.told(text).mean(0), above);
        due.is(text + " mean(1)", Due.told(text).mean(1), below);
    }

    private void mean() {
        due.says("MEAN PLACE of SHORES: a fraction (0 over 1 of none).");
        meanIs("v1;", 0, 1);
        meanIs("i30;", 0, 1);
        meanIs("s0000;", 0, 1);
        meanIs("s0030;", 30, 1);
        meanIs("s0000;s0030;", 15, 1);
        meanIs("s0000;s0001;", 1, 2);
        meanIs("s0030;s0029;s0028;s0027;s0026;s0025;s0024;", 27, 1);
        meanIs("s0000;s0001;s0002;s0003;s0004;s0005;s0007;", 22, 7);
    }

    private void gapIs(String text, int widest, int place) {
        due.is(text + " gap(0)", Due.told(text).gap(0), widest);
        due.is(text + " gap(1)", Due.told(text).gap(1), place);
    }

    private void gap() {
        due.says("GAP: the greatest difference of PLACES of two SHORES next to each other along the bay; the lesser PLACE "
            + "of the first such; -9 fewer than two.");
        gapIs("v1;", -9, -9);
        gapIs("s0010;", -9, -9);
        gapIs("s0010;s0011;", 1, 10);
        gapIs("s0011;s0010;", 1, 10);
        gapIs("s0030;s0000;", 30, 0);
        gapIs("s0030;s0000;s0015;", 15, 0);
        gapIs("s0030;s0000;s0014;", 16, 14);
        gapIs("s0030;s0000;s0016;", 16, 0);
        // As wide as an earlier one is not the first; THE ISLE and the bay's ends are none.
        gapIs("s0010;s0012;s0014;s0013;", 2, 10);
        gapIs("s0020;s0021;", 1, 20);
        gapIs("s0000;s0001;s0002;s0003;s0004;s0005;s0006;", 1, 0);
    }

    private void image() {
        due.says("THE IMAGE: all that there is of I, but it, letters, the ROW, REFUSALS.");
        TowardTheLoudest bay = Due.told("s4830;s1710;s0502;q1;p277;v3;h40;");
        List<Integer> pictured = bayOf(bay);
        due.is("image()", bay.image(), 2);
        // KIND, FIGURE, PLACE of a SHORE more, POWDER, QUIET, JOY, THE ISLE, PACE, HOUR, DAY.
        Due.tell(bay, "s0015;p005;p106;p207;q0;q1;q2;i15;v5;h99;");
        due.is("DAY", bay.count(2), 6);
        due.holds("it is otherwise", !bayOf(bay).equals(pictured));
        due.is("restore()", bay.restore(), 2);
        due.holds("all of it is there again: " + bayOf(bay), bayOf(bay).equals(pictured));
        due.is("a SHORE that was none then", bay.shoreOf(3, 0), -1);
        bay.hours(99);
        bay.shore(1, 1, 1);
        due.is("restore(), again", bay.restore(), 2);
        due.holds("all of it is there again", bayOf(bay).equals(pictured));
        due.is("a SHORE more, by its number", bay.shore(0, 0, 20), 3);
        due.is("QUIET of a SHORE more", bay.shoreOf(3, 4), 0);
        due.is("POWDER of a SHORE more", bay.shoreOf(3, 3), 9);
        due.is("image(), another", bay.image(), 2);
        bay.shore(0, 0, 21);
        due.is("restore()", bay.restore(), 2);
        due.is("count(0), as in the later one", bay.count(0), 4);
    }

    private void imageLeaves() {
        TowardTheLoudest bay = Due.told("s0510;");
        bay.feed('v');
        bay.row(0);
        bay.back();
        bay.hushes(0);
        bay.image();
        due.is("count(8), as image() leaves them", bay.count(8), 1);
        bay.feed('4');
        bay.feed(';');
        bay.row(9);
        bay.back();
        bay.back();
        bay.isleOf(9);
        due.is("restore()", bay.restore(), 0);
        int[][] counts = {{3, 1}, {6, 3}, {7, 2}, {8, 0}, {11, 0}, {12, 1}, {13, 2}};
        for (int[] count : counts) {
            due.is("count(" + count[0] + ")", bay.count(count[0]), count[1]);
        }
        due.is("bay() of letters of before and behind", bay.bay(), 1);
        due.is("PACE", bay.isleOf(1), 4);
        due.is("judge() of numbers of before and behind", bay.judge(), 0);
        due.is("restore(), as the image stays", bay.restore(), 0);
        due.is("PACE, as in the image", bay.isleOf(1), 1);
    }

    private void fractions() {
        due.says("(Fractions are told in lowest terms; 0 as 0 over 1.)");
        meanIs("s0000;s0002;", 1, 1);
        meanIs("s0000;s0001;s0002;s0003;", 3, 2);
        meanIs("s0000;s0001;s0002;s0003;s0004;s0010;", 10, 3);
        meanIs("s0000;s0001;s0002;s0003;s0004;s0005;", 5, 2);
        thunderIs("s0500;", 2, 2, 0, 1);
        thunderIs("s0515;", 2, 2, 1, 1);
        thunderIs("s0501;i00;", 2, 2, 3, 4);
        // Each of the 2 hours has to be without thunder: 1, 9 and 361 ways, and 4, 16 and 400 in all.
        thunderIs("s0513;", 2, 2, 1, 4);
        thunderIs("s0513;", 2, 4, 9, 16);
        thunderIs("s0513;", 2, 20, 361, 400);
        // From 12 it is there behind 4 hours by 6 of 16 ways of odds 1 in 2.
        thunderIs("s0510;i12;", 4, 2, 3, 8);
    }

    private void thunderIs(String text, int n, int t, long above, long below) {
        due.is(text + " thunder(0, " + n + ", " + t + ", 0)", Due.told(text).thunder(0, n, t, 0), above);
        due.is(text + " thunder(0, " + n + ", " + t + ", 1)", Due.told(text).thunder(0, n, t, 1), below);
    }
}
