/** Promises 14 to 19, 33 and 35: what is asked of the hours to come. */
public final class MindTest {
    private final Due due = new Due("MindTest");

    public static void main(String[] args) {
        MindTest test = new MindTest();
        test.behind();
        test.shoreBehind();
        test.first();
        test.whoFirst();
        test.still();
        test.most();
        test.farthest();
        test.spent();
        test.ring();
        test.nothingChanges();
        test.due.end();
    }

    /** THE ISLE comes to 10 behind 5 hours, goes to 11, and is drawn back: 10 behind 5, 7, 9, .. */
    private static TowardTheLoudest toAndFro() {
        return Due.told("s0510;s0520;");
    }

    private void behind() {
        TowardTheLoudest bay = Due.told("s0510;");
        int[] places = {15, 14, 13, 12, 11, 10, 10};
        for (int n = 0; n < places.length; n++) {
            due.is("behind(" + n + ", 0)", bay.behind(n, 0), places[n]);
            due.is("behind(" + n + ", 1)", bay.behind(n, 1), n < 5 ? -9 : 0);
        }
        due.is("behind(99, 0)", bay.behind(99, 0), 10);
        due.is("toAndFro, behind(98, 0)", toAndFro().behind(98, 0), 11);
        due.is("toAndFro, behind(99, 1)", toAndFro().behind(99, 1), 0);
        due.is("behind(-1, 2)", bay.behind(-1, 2), -4);
        due.is("behind(100, 2)", bay.behind(100, 2), -6);
        due.is("behind(99, 2)", bay.behind(99, 2), -2);
        due.is("behind(0, -1)", bay.behind(0, -1), -2);
    }

    private void shoreBehind() {
        TowardTheLoudest bay = Due.told("s4810;s4920;p119;");
        // At 8 to 14, at 9 to 15, at 21 to 16; at 20 the first has not POWDER enough.
        due.is("shoreBehind(0, 0, 1)", bay.shoreBehind(0, 0, 1), 9);
        due.is("shoreBehind(0, 1, 1)", bay.shoreBehind(0, 1, 1), 4);
        due.is("shoreBehind(0, 99, 1)", bay.shoreBehind(0, 99, 1), 4);
        due.is("shoreBehind(1, 1, 1)", bay.shoreBehind(1, 1, 1), 19);
        due.is("shoreBehind(1, 2, 1)", bay.shoreBehind(1, 2, 1), 14);
        due.is("shoreBehind(1, 14, 1)", bay.shoreBehind(1, 14, 1), 9);
        due.is("shoreBehind(1, 99, 1)", bay.shoreBehind(1, 99, 1), 4);
        bay.isle(0, 19);
        // At 8 to 18, at 9 to 19, at 21 to 20, where it stays from behind 14 hours on.
        due.is("shoreBehind(1, 13, 0)", bay.shoreBehind(1, 13, 0), 0);
        due.is("shoreBehind(1, 14, 0)", bay.shoreBehind(1, 14, 0), 1);
        due.is("shoreBehind(1, 99, 0)", bay.shoreBehind(1, 99, 0), 86);
        bay.isle(0, 20);
        due.is("shoreBehind(1, 0, 0)", bay.shoreBehind(1, 0, 0), 0);
        bay.hours(13);
        due.is("JOY, as at 8 it goes and at 9 comes back", bay.shoreOf(1, 5), 12);
        due.is("shoreBehind(1, 0, 0)", bay.shoreBehind(1, 0, 0), 12);
        due.is("shoreBehind(1, 4, 0)", bay.shoreBehind(1, 4, 0), 16);
        due.is("shoreBehind(2, -1, 2)", bay.shoreBehind(2, -1, 2), -1);
        due.is("shoreBehind(-1, 0, 0)", bay.shoreBehind(-1, 0, 0), -1);
        due.is("shoreBehind(0, -1, 2)", bay.shoreBehind(0, -1, 2), -4);
        due.is("shoreBehind(0, 100, 2)", bay.shoreBehind(0, 100, 2), -6);
        due.is("shoreBehind(0, 99, 2)", bay.shoreBehind(0, 99, 2), -2);
    }

    private void first() {
        TowardTheLoudest bay = toAndFro();
        due.is("first(0)", bay.first(0), 5);
        due.is("first(1)", bay.first(1), -9);
        bay.isle(0, 20);
        due.is("first(1), behind 0 hours", bay.first(1), 0);
        due.is("first(0)", bay.first(0), -9);
        due.is("first(2)", bay.first(2), -1);
        due.is("first(-1)", bay.first(-1), -1);
        // The CANNON sounds at 9 and 21 and draws it a PLACE each time: behind 2, 14, 26, .. hours.
        due.is("first(0), 7 PLACES to go", Due.told("s4908;p099;").first(0), 74);
        due.is("first(0), 8 PLACES to go", Due.told("s4907;p099;").first(0), 86);
        // From 7 on behind 3, 15, .. hours, from 6 on behind 4, 16, .. hours.
        due.is("first(0), behind 99 hours", Due.told("h23;i12;s4903;p099;").first(0), 99);
        due.is("first(0), behind 100 hours", Due.told("h22;i12;s4903;p099;").first(0), -9);
    }

    private void whoFirst() {
        TowardTheLoudest bay = toAndFro();
        due.is("whoFirst(0)", bay.whoFirst(0), 0);
        due.is("whoFirst(1)", bay.whoFirst(1), 2);
        bay.isle(0, 20);
        due.is("whoFirst(0), behind 0 hours", bay.whoFirst(0), 1);
        due.is("whoFirst(1)", bay.whoFirst(1), 1);
        bay.isle(0, 15);
        bay.hushes(0);
        bay.hushes(1);
        due.is("whoFirst(0) of QUIET ones", bay.whoFirst(0), -9);
        due.is("whoFirst(1) of QUIET ones", bay.whoFirst(1), 3);
        due.is("whoFirst(0), behind 99 hours", Due.told("h23;i12;s4903;p099;").whoFirst(0), 0);
        due.is("whoFirst(1), behind 99 hours", Due.told("h23;i12;s4903;p099;").whoFirst(1), 0);
        due.is("whoFirst(0), behind 100 hours", Due.told("h22;i12;s4903;p099;").whoFirst(0), -9);
        due.is("whoFirst(1), behind 100 hours", Due.told("h22;i12;s4903;p099;").whoFirst(1), 1);
        due.is("whoFirst(3)", bay.whoFirst(3), -2);
        due.is("whoFirst(-1)", bay.whoFirst(-1), -2);
    }

    private void still() {
        due.is("whoFirst(2), there", Due.told("s0510;").whoFirst(2), 5);
        due.is("whoFirst(2), at odd hours", Due.told("s1510;").whoFirst(2), 1);
        due.is("whoFirst(2), never", toAndFro().whoFirst(2), -9);
        due.is("whoFirst(2), at once", Due.told("s0515;").whoFirst(2), 0);
        // To and fro as long as the DRUM has POWDER at even hours, while the SHORE HAS it.
        due.is("whoFirst(2), behind 49 times", Due.told("s0510;s1720;p149;i10;").whoFirst(2), 98);
        due.is("whoFirst(2), behind 99 hours", Due.told("s0510;s1720;h01;p149;i11;").whoFirst(2), 99);
        due.is("whoFirst(2), behind 100 hours", Due.told("s0510;s1720;p150;i10;").whoFirst(2), -9);
    }

    private void most() {
        TowardTheLoudest bay = toAndFro();
        due.is("most(4, 0)", bay.most(4, 0), -9);
        due.is("most(4, 1)", bay.most(4, 1), 0);
        due.is("most(5, 0)", bay.most(5, 0), 0);
        due.is("most(5, 1)", bay.most(5, 1), 1);
        due.is("most(8, 1)", bay.most(8, 1), 2);
        due.is("most(99, 1)", bay.most(99, 1), 48);
        bay.isle(0, 20);
        due.is("most(0, 0), as behind 0 hours does not count", bay.most(0, 0), -9);
        due.is("most(1, 0)", bay.most(1, 0), -9);
        due.is("most(2, 0)", bay.most(2, 0), 1);
        // At 10 behind 1 hour, at 11 behind 2, and so on: as often each behind an even number.
        TowardTheLoudest next = Due.told("s0511;s0510;i12;");
        due.is("most(1, 0)", next.most(1, 0), 0);
        due.is("most(2, 0), the least of two", next.most(2, 0), 0);
        due.is("most(2, 1)", next.most(2, 1), 1);
        due.is("most(3, 1)", next.most(3, 1), 2);
        TowardTheLoudest other = Due.told("s0510;s0511;i12;");
        due.is("most(1, 0)", other.most(1, 0), 1);
        due.is("most(2, 0), the least of two", other.most(2, 0), 0);
        due.is("most(3, 0)", other.most(3, 0), 1);
        due.is("most(-1, 2)", bay.most(-1, 2), -4);
        due.is("most(100, 2)", bay.most(100, 2), -6);
        due.is("most(99, 2)", bay.most(99, 2), -2);
    }

    private void farthest() {
        TowardTheLoudest bay = toAndFro();
        int[][] want = {{15, 15}, {14, 15}, {13, 15}, {12, 15}, {11, 15}, {10, 15}, {10, 15}};
        for (int n = 0; n < want.length; n++) {
            due.is("farthest(" + n + ", 0)", bay.farthest(n, 0), want[n][0]);
            due.is("farthest(" + n + ", 1)", bay.farthest(n, 1), want[n][1]);
        }
        TowardTheLoudest upwards = Due.told("s0518;");
        for (int n = 0; n < 6; n++) {
            due.is("farthest(" + n + ", 0), upwards", upwards.farthest(n, 0), 15);
            due.is("farthest(" + n + ", 1), upwards", upwards.farthest(n, 1), Math.min(18, 15 + n));
        }
        due.is("farthest(99, 1)", Due.told("s0529;").farthest(99, 1), 29);
        due.is("farthest(99, 0)", Due.told("s0529;").farthest(99, 0), 15);
        due.is("farthest(-1, 2)", bay.farthest(-1, 2), -4);
        due.is("farthest(100, 2)", bay.farthest(100, 2), -6);
        due.is("farthest(99, 2)", bay.farthest(99, 2), -2);
    }

    private void spent() {
        // At 8 both, at 10 and on the DRUM, which has 9; at 20 the CANNON lacks POWDER.
        TowardTheLoudest bay = Due.told("s4830;s1700;");
        int[] want = {0, 6, 6, 7, 7, 8};
        for (int n = 0; n < want.length; n++) {
            due.is("spent(" + n + ")", bay.spent(n), want[n]);
        }
        due.is("spent(99)", bay.spent(99), 14);
        due.is("spent(99), of none", new TowardTheLoudest().spent(99), 0);
        due.is("spent(-1)", bay.spent(-1), -4);
        due.is("spent(100)", bay.spent(100), -6);
    }

    private void ring() {
        TowardTheLoudest bay = toAndFro();
        due.is("ring(0), never at 15 again", bay.ring(0), -9);
        due.is("ring(4), at 11 as 24 hours later", bay.ring(4), 24);
        due.is("ring(5)", bay.ring(5), 24);
        due.is("ring(99)", bay.ring(99), 24);
        due.is("ring(50), a bay that has it each second day", ringOfTwoDays().ring(50), 48);
        due.is("ring(-1)", bay.ring(-1), -4);
        due.is("ring(100)", bay.ring(100), -6);
    }

    /** Found by search: most bays with a ring have one of a day. */
    private static TowardTheLoudest ringOfTwoDays() {
        return Due.told("s1318;s3306;s1517;s1524;i23;v4;");
    }

    private void nothingChanges() {
        TowardTheLoudest bay = Due.told("s4830;s1710;");
        bay.hours(2);
        int[] before = new int[9];
        for (int what = 0; what < 9; what++) {
            before[what] = bay.count(what);
        }
        bay.behind(99, 0);
        bay.shoreBehind(0, 99, 0);
        bay.first(0);
        bay.whoFirst(1);
        bay.most(99, 0);
        bay.farthest(99, 0);
        bay.spent(99);
        bay.ring(99);
        for (int what = 0; what < 9; what++) {
            due.is("count(" + what + "), as before", bay.count(what), before[what]);
        }
        due.is("PLACE, as before", bay.isleOf(0), 15 + 1);
    }
}
