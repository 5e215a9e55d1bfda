/** Promises 4 to 9. */
public final class ShoresTest {
    private final Due due = new Due("ShoresTest");

    public static void main(String[] args) {
        ShoresTest test = new ShoresTest();
        test.whatAShoreIs();
        test.whatShoresCost();
        test.whatTheIsleIs();
        test.shoresMore();
        test.powders();
        test.hushes();
        test.isle();
        test.due.end();
    }

    private void whatAShoreIs() {
        TowardTheLoudest bay = Due.told("s1720;s4315;q1;p188;");
        int[][] want = {{1, 7, 20, 9, 0, 0, 1, 0}, {4, 3, 15, 88, 1, 0, 5, 1}};
        for (int shore = 0; shore < 2; shore++) {
            for (int what = 0; what < 8; what++) {
                due.is("shoreOf(" + shore + ", " + what + ")", bay.shoreOf(shore, what), want[shore][what]);
            }
        }
        bay.hours(1);
        due.is("JOY of who HAD it, as the DRUM sounds", bay.shoreOf(1, 5), 0);
        bay.isle(0, 14);
        bay.hushes(1);
        bay.hushes(0);
        bay.hours(9);
        due.is("JOY, as it drifts there at 15 and stays", bay.shoreOf(1, 5), 3);
        due.is("shoreOf(2, 0)", bay.shoreOf(2, 0), -1);
        due.is("shoreOf(-1, 0)", bay.shoreOf(-1, 0), -1);
        due.is("shoreOf(-1, 9)", bay.shoreOf(-1, 9), -1);
        due.is("shoreOf(0, 8)", bay.shoreOf(0, 8), -2);
        due.is("shoreOf(0, -1)", bay.shoreOf(0, -1), -2);
        due.is("count(11)", bay.count(11), 3);
        due.is("count(12)", bay.count(12), 2);
    }

    private void whatShoresCost() {
        // KIND, FIGURE, what it COSTS
        int[][] costs = {{0, 9, 0}, {1, 6, 0}, {1, 7, 1}, {1, 9, 1}, {2, 9, 0}, {3, 6, 0}, {3, 7, 1},
            {3, 9, 1}, {4, 0, 5}, {4, 9, 5}, {5, 9, 0}};
        for (int[] cost : costs) {
            TowardTheLoudest bay = new TowardTheLoudest();
            bay.shore(cost[0], cost[1], 0);
            due.is("COSTS of KIND " + cost[0] + ", FIGURE " + cost[1], bay.shoreOf(0, 6), cost[2]);
        }
    }

    private void whatTheIsleIs() {
        TowardTheLoudest bay = Due.told("s0020;s0003;i03;v5;");
        due.is("isleOf(0)", bay.isleOf(0), 3);
        due.is("isleOf(1)", bay.isleOf(1), 5);
        due.is("isleOf(2)", bay.isleOf(2), 1);
        due.is("isleOf(3)", bay.isleOf(3), -2);
        due.is("isleOf(-1)", bay.isleOf(-1), -2);
        bay.isle(0, 4);
        due.is("isleOf(2), by none", bay.isleOf(2), -9);
        due.is("count(12)", bay.count(12), 2);
    }

    private void shoresMore() {
        TowardTheLoudest bay = new TowardTheLoudest();
        due.is("shore(0, 0, 0)", bay.shore(0, 0, 0), 0);
        due.is("shore(5, 9, 30)", bay.shore(5, 9, 30), 1);
        due.is("shore(6, -1, 31)", bay.shore(6, -1, 31), -2);
        due.is("shore(-1, 0, 1)", bay.shore(-1, 0, 1), -2);
        due.is("shore(5, -1, 31)", bay.shore(5, -1, 31), -4);
        due.is("shore(5, 10, 31)", bay.shore(5, 10, 31), -6);
        due.is("shore(5, 9, 31)", bay.shore(5, 9, 31), -1);
        due.is("shore(5, 9, -1)", bay.shore(5, 9, -1), -1);
        due.is("shore(5, 9, 30), again", bay.shore(5, 9, 30), -3);
        due.is("count(0)", bay.count(0), 2);
        due.is("the SHORE more on THE ISLE's PLACE", bay.shore(1, 1, 15), 2);
        due.is("POWDER, at first", bay.shoreOf(2, 3), 9);
        due.is("JOY, at first", bay.shoreOf(2, 5), 0);
        bay.hushes(0);
        due.is("count(8)", bay.count(8), 1);
        due.is("a refused one", bay.shore(0, 0, 0), -3);
        due.is("count(8), behind it", bay.count(8), 1);
        due.is("shore(0, 0, 4)", bay.shore(0, 0, 4), 3);
        due.is("count(8), behind a SHORE more", bay.count(8), 0);
        bay.shore(0, 0, 5);
        bay.shore(0, 0, 6);
        due.is("the seventh", bay.shore(0, 0, 7), 6);
        due.is("the eighth", bay.shore(0, 0, 8), -6);
        due.is("the eighth on no PLACE", bay.shore(0, 0, 99), -6);
        due.is("the eighth of FIGURE -1", bay.shore(0, -1, 8), -4);
        int[] refusals = {1 + 1, 2, 2, 2, 0, 3};
        for (int i = 0; i < 6; i++) {
            due.is("count(" + (11 + i) + ")", bay.count(11 + i), refusals[i]);
        }
    }

    private void powders() {
        TowardTheLoudest bay = Due.told("s0000;s0001;");
        due.is("powders(1, 99)", bay.powders(1, 99), 9);
        due.is("powders(1, 0)", bay.powders(1, 0), 99);
        due.is("powders(1, 0), again", bay.powders(1, 0), 0);
        due.is("POWDER of the other", bay.shoreOf(0, 3), 9);
        due.is("powders(2, -1)", bay.powders(2, -1), -1);
        due.is("powders(-1, 1)", bay.powders(-1, 1), -1);
        due.is("powders(1, -1)", bay.powders(1, -1), -4);
        due.is("powders(1, 100)", bay.powders(1, 100), -6);
        due.is("POWDER", bay.shoreOf(1, 3), 0);
        due.is("count(8)", bay.count(8), 3);
    }

    private void hushes() {
        TowardTheLoudest bay = Due.told("s0000;s0001;");
        due.is("hushes(1)", bay.hushes(1), 1);
        due.is("count(3)", bay.count(3), 2);
        due.is("hushes(0)", bay.hushes(0), 1);
        due.is("hushes(1), again", bay.hushes(1), 0);
        due.is("count(3)", bay.count(3), 1);
        due.is("hushes(2)", bay.hushes(2), -1);
        due.is("hushes(-1)", bay.hushes(-1), -1);
        due.is("count(8)", bay.count(8), 3);
    }

    private void isle() {
        TowardTheLoudest bay = Due.told("s0000;");
        due.is("isle(0, 30)", bay.isle(0, 30), 15);
        due.is("isle(0, 0)", bay.isle(0, 0), 30);
        due.is("JOY, as no hour went by", bay.shoreOf(0, 5), 0);
        due.is("isle(1, 5)", bay.isle(1, 5), 1);
        due.is("isle(1, 1)", bay.isle(1, 1), 5);
        due.is("isle(0, 31)", bay.isle(0, 31), -6);
        due.is("isle(0, -1)", bay.isle(0, -1), -4);
        due.is("isle(1, 6)", bay.isle(1, 6), -6);
        due.is("isle(1, 0)", bay.isle(1, 0), -4);
        due.is("isle(2, -1)", bay.isle(2, -1), -2);
        due.is("isle(-1, 99)", bay.isle(-1, 99), -2);
        due.is("PLACE", bay.isleOf(0), 0);
        due.is("PACE", bay.isleOf(1), 1);
        due.is("count(8)", bay.count(8), 4);
    }
}
