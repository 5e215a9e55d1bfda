/** Promises 12, 13 and 28 to 32: what is asked of all as it is now. */
public final class NowTest {
    private static final String ONE_OF_EACH = "s0500;s1205;s2010;s3420;s4725;s5030;";

    private final Due due = new Due("NowTest");

    public static void main(String[] args) {
        NowTest test = new NowTest();
        test.noiseOfEachKind();
        test.noiseOfTheSilent();
        test.loudest();
        test.nearest();
        test.shared();
        test.loudHour();
        test.mean();
        test.gap();
        test.due.end();
    }

    private void noiseOfEachKind() {
        TowardTheLoudest bay = Due.told(ONE_OF_EACH);
        for (int hour = 0; hour < 24; hour++) {
            boolean even = hour % 2 == 0;
            boolean twice = hour == 10 || hour == 18 || hour == 20;
            int[] want = {5, even ? 5 : 0, 4, !even ? 0 : twice ? 14 : 7, hour == 7 || hour == 19 ? 30 : 0, 1};
            for (int shore = 0; shore < 6; shore++) {
                due.is("noise(" + shore + ", " + hour + ")", bay.noise(shore, hour), want[shore]);
            }
            int sum = !even ? (hour == 7 || hour == 19 ? 40 : 10) : twice ? 29 : 22;
            due.is("loudest(" + hour + ", 1)", bay.loudest(hour, 1), sum);
            int loudest = even ? 3 : hour == 7 || hour == 19 ? 4 : 0;
            due.is("loudest(" + hour + ", 0)", bay.loudest(hour, 0), loudest);
        }
        due.is("noise(6, 0)", bay.noise(6, 0), -1);
        due.is("noise(-1, 0)", bay.noise(-1, 0), -1);
        due.is("noise(0, 24)", bay.noise(0, 24), -1);
        due.is("noise(0, -1)", bay.noise(0, -1), -1);
        due.is("count(11)", bay.count(11), 4);
        TowardTheLoudest cannons = Due.told("s4000;s4901;");
        for (int hour = 0; hour < 24; hour++) {
            due.is("noise(0, " + hour + ")", cannons.noise(0, hour), hour == 0 || hour == 12 ? 30 : 0);
            due.is("noise(1, " + hour + ")", cannons.noise(1, hour), hour == 9 || hour == 21 ? 30 : 0);
        }
    }

    private void noiseOfTheSilent() {
        TowardTheLoudest bay = Due.told(ONE_OF_EACH);
        bay.hushes(0);
        due.is("noise(0, 8), QUIET", bay.noise(0, 8), 0);
        bay.hushes(0);
        due.is("noise(0, 8), not any more", bay.noise(0, 8), 5);
        bay.powders(4, 4);
        due.is("noise(4, 7), less POWDER than it COSTS", bay.noise(4, 7), 0);
        bay.powders(4, 5);
        due.is("noise(4, 7), just as much", bay.noise(4, 7), 30);
        bay.isle(0, 25);
        due.is("noise(4, 7), as it HAS THE ISLE", bay.noise(4, 7), 0);
        for (int shore = 0; shore < 4; shore++) {
            bay.powders(shore, 0);
        }
        due.is("noise(0, 7), without POWDER", bay.noise(0, 7), 5);
        due.is("noise(1, 8), without POWDER", bay.noise(1, 8), 5);
        TowardTheLoudest drums = Due.told("s1700;s3701;p000;p100;");
        due.is("noise(0, 8), no POWDER", drums.noise(0, 8), 0);
        due.is("noise(1, 8), no POWDER", drums.noise(1, 8), 0);
        drums.powders(0, 1);
        drums.powders(1, 1);
        due.is("noise(0, 8), POWDER 1", drums.noise(0, 8), 10);
        due.is("noise(1, 10), POWDER 1", drums.noise(1, 10), 20);
    }

    private void loudest() {
        TowardTheLoudest bay = Due.told("s0510;s0520;s0513;");
        due.is("loudest(0, 0), the nearest", bay.loudest(0, 0), 2);
        bay.hushes(2);
        due.is("loudest(0, 0), the least", bay.loudest(0, 0), 0);
        bay.isle(0, 16);
        due.is("loudest(0, 0), the nearer", bay.loudest(0, 0), 1);
        bay.isle(0, 20);
        due.is("loudest(0, 0), but who HAS THE ISLE", bay.loudest(0, 0), 0);
        due.is("loudest(0, 1)", bay.loudest(0, 1), 5);
        bay.hushes(0);
        due.is("loudest(0, 0), none", bay.loudest(0, 0), -9);
        due.is("loudest(0, 1), none", bay.loudest(0, 1), 0);
        due.is("loudest(24, 2)", bay.loudest(24, 2), -1);
        due.is("loudest(-1, 0)", bay.loudest(-1, 0), -1);
        due.is("loudest(23, 2)", bay.loudest(23, 2), -2);
        due.is("loudest(23, -1)", bay.loudest(23, -1), -2);
        due.is("loudest(0, 0) of FIGURE 0", Due.told("s0010;").loudest(0, 0), -9);
    }

    private void nearest() {
        TowardTheLoudest bay = Due.told(ONE_OF_EACH);
        due.is("nearest(0), the least of two", bay.nearest(0), 2);
        due.is("nearest(1)", bay.nearest(1), 5);
        bay.isle(0, 16);
        due.is("nearest(0)", bay.nearest(0), 3);
        due.is("nearest(1)", bay.nearest(1), 4);
        bay.isle(0, 25);
        due.is("nearest(0), that HAS it", bay.nearest(0), 4);
        due.is("nearest(1)", bay.nearest(1), 0);
        due.is("nearest(2)", bay.nearest(2), -2);
        due.is("nearest(-1)", bay.nearest(-1), -2);
        TowardTheLoudest none = new TowardTheLoudest();
        due.is("nearest(0) of none", none.nearest(0), -9);
        due.is("nearest(1) of none", none.nearest(1), -9);
    }

    private void shared() {
        TowardTheLoudest bay = Due.told("s0500;s0510;h09;s0020;");
        due.is("JOY of the one there from 13 on", bay.shoreOf(1, 5), 3);
        due.is("JOY of the other", bay.shoreOf(0, 5), 0);
        due.is("shared(0)", bay.shared(0), 1);
        due.is("shared(1)", bay.shared(1), 0);
        due.is("shared(2)", bay.shared(2), 5);
        due.is("count(4)", bay.count(4), 3);
        bay.shore(0, 0, 30);
        due.is("shared(0) by four", bay.shared(0), 0);
        due.is("shared(1) by four", bay.shared(1), 3);
        due.is("shared(2) by four", bay.shared(2), 13);
        due.is("shared(0) by one", Due.told("s0510;h09;").shared(0), 5);
        due.is("shared(1) by one", Due.told("s0510;h09;").shared(1), 0);
        due.is("shared(3)", bay.shared(3), -2);
        due.is("shared(-1)", bay.shared(-1), -2);
        TowardTheLoudest none = new TowardTheLoudest();
        for (int what = 0; what < 3; what++) {
            due.is("shared(" + what + ") of none", none.shared(what), 0);
        }
        due.is("shared(3) of none", none.shared(3), -2);
    }

    private void loudHour() {
        TowardTheLoudest bay = Due.told(ONE_OF_EACH);
        due.is("loudHour(0), the least of two", bay.loudHour(0), 7);
        due.is("loudHour(1)", bay.loudHour(1), 0);
        due.is("loudHour(0), a CANNON of FIGURE 1", Due.told("s4120;s0110;").loudHour(0), 1);
        due.is("loudHour(0), a CANNON of FIGURE 0", Due.told("s4020;s0110;").loudHour(0), 0);
        bay.powders(4, 0);
        due.is("loudHour(0), without the CANNON", bay.loudHour(0), 10);
        bay.powders(4, 5);
        for (int shore : new int[] {0, 2, 3, 5}) {
            bay.hushes(shore);
        }
        due.is("loudHour(1), a DRUM's and a CANNON's", bay.loudHour(1),
            0b1010_1010_1010_1010_1010_1010 & ~(1 << 7) & ~(1 << 19));
        bay.isle(0, 5);
        due.is("loudHour(1), a CANNON's", bay.loudHour(1), 0xffffff & ~(1 << 7) & ~(1 << 19));
        bay.isle(0, 25);
        bay.hushes(1);
        due.is("loudHour(0) of none", bay.loudHour(0), 0);
        due.is("loudHour(1) of none", bay.loudHour(1), 0xffffff);
        due.is("loudHour(2)", bay.loudHour(2), -2);
        due.is("loudHour(-1)", bay.loudHour(-1), -2);
    }

    private void mean() {
        TowardTheLoudest bay = new TowardTheLoudest();
        meanIs(bay, 0, 1);
        bay.shore(0, 0, 0);
        meanIs(bay, 0, 1);
        meanIs(Due.told("s0007;"), 7, 1);
        bay.shore(0, 0, 15);
        meanIs(bay, 15, 2);
        bay.shore(0, 0, 30);
        meanIs(bay, 15, 1);
        bay.shore(0, 0, 1);
        meanIs(bay, 23, 2);
        bay.shore(0, 0, 2);
        meanIs(bay, 48, 5);
        due.is("mean(2)", bay.mean(2), 4000000000000000002L);
        due.is("mean(-1)", bay.mean(-1), 4000000000000000002L);
        due.is("count(12)", bay.count(12), 2);
    }

    private void meanIs(TowardTheLoudest bay, long above, long below) {
        due.is("mean(0) of " + bay.count(0), bay.mean(0), above);
        due.is("mean(1) of " + bay.count(0), bay.mean(1), below);
    }

    private void gap() {
        TowardTheLoudest bay = new TowardTheLoudest();
        gapIs(bay, -9, -9);
        bay.shore(0, 0, 20);
        gapIs(bay, -9, -9);
        bay.shore(0, 0, 30);
        gapIs(bay, 10, 20);
        bay.shore(0, 0, 10);
        gapIs(bay, 10, 10);
        bay.shore(0, 0, 0);
        gapIs(bay, 10, 0);
        bay.shore(0, 0, 5);
        gapIs(bay, 10, 10);
        bay.shore(0, 0, 11);
        gapIs(bay, 10, 20);
        bay.shore(0, 0, 29);
        gapIs(bay, 9, 11);
        gapIs(Due.told("s0000;s0030;"), 30, 0);
        gapIs(Due.told("s0009;s0008;"), 1, 8);
        due.is("gap(2)", bay.gap(2), -2);
        due.is("gap(-1)", bay.gap(-1), -2);
    }

    private void gapIs(TowardTheLoudest bay, int widest, int place) {
        due.is("gap(0) of " + bay.count(0), bay.gap(0), widest);
        due.is("gap(1) of " + bay.count(0), bay.gap(1), place);
    }
}
