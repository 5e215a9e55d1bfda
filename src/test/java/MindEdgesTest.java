/** Of what is asked of an hour or of the hours to come, word by word: II as far as FARTHEST, SPENT, RING. */
public final class MindEdgesTest {
    /**
     * The CANNON sounds at 9 and at 21 and draws THE ISLE a PLACE each time, 9 PLACES in all: from HOUR
     * 7 on behind 3, 15, .. 99 hours, from HOUR 6 on behind 4, 16, .. 100.
     */
    private static final String BEHIND_99 = "h23;i12;s4903;p099;";
    private static final String BEHIND_100 = "h22;i12;s4903;p099;";

    /** THE ISLE comes to 10 behind 5 hours, goes to 11, and is drawn back: 10 behind 5, 7, 9, .. */
    private static final String TO_AND_FRO = "s0510;s0520;";

    private final Due due = new Due("MindEdgesTest");

    public static void main(String[] args) {
        MindEdgesTest test = new MindEdgesTest();
        test.ofAnHour();
        test.asAllIsNow();
        test.inMind();
        test.first();
        test.whoFirst();
        test.never();
        test.most();
        test.still();
        test.farthest();
        test.spent();
        test.ring();
        test.due.end();
    }

    private void ofAnHour() {
        due.says("Of an hour (0 .. 23), as all is now: NOISE of a SHORE; the LOUDEST; -9; all NOISE together.");
        TowardTheLoudest bay = Due.told("s1310;s0520;s5000;");
        int[] hours = {-1, 0, 23, 24};
        int[] noise = {-1, 6, 0, -1};
        int[] loudest = {-1, 0, 1, -1};
        int[] all = {-1, 12, 6, -1};
        for (int i = 0; i < hours.length; i++) {
            due.is("noise(0, " + hours[i] + ")", bay.noise(0, hours[i]), noise[i]);
            due.is("loudest(" + hours[i] + ", 0)", bay.loudest(hours[i], 0), loudest[i]);
            due.is("loudest(" + hours[i] + ", 1)", bay.loudest(hours[i], 1), all[i]);
        }
        for (String none : new String[] {"v1;", "s0010;", "s0510;q0;", "s0515;", "s4010;p004;"}) {
            due.is(none + " loudest(0, 0)", Due.told(none).loudest(0, 0), -9);
            due.is(none + " loudest(0, 1)", Due.told(none).loudest(0, 1), 0);
        }
        TowardTheLoudest full = Due.told("s4000;s4001;s4002;s4003;s4004;s4005;s4006;");
        due.is("all NOISE of seven", full.loudest(12, 1), 210);
        due.is("the LOUDEST of seven", full.loudest(12, 0), 6);
    }

    private void asAllIsNow() {
        // POWDER, QUIET and PLACE of now, whatever would be by that hour.
        TowardTheLoudest bay = Due.told("s4816;s0514;");
        due.is("noise(0, 8)", bay.noise(0, 8), 30);
        due.is("noise(0, 20), though there will be less POWDER", bay.noise(0, 20), 30);
        due.is("behind(13, 0)", bay.behind(13, 0), 14);
        due.is("loudest(20, 0)", bay.loudest(20, 0), 0);
        due.is("loudest(20, 1)", bay.loudest(20, 1), 35);
        due.is("loudest(9, 1), though it will have THE ISLE", bay.loudest(9, 1), 5);
        bay.hours(1);
        due.is("noise(0, 8), as it HAS THE ISLE", bay.noise(0, 8), 0);
        bay.isle(0, 15);
        due.is("noise(0, 8), with less POWDER", bay.noise(0, 8), 0);
    }

    private void inMind() {
        due.says("In mind, n hours on (0 .. 99): PLACE of THE ISLE; who HAS it (-9); JOY of a SHORE; POWDER of one.");
        TowardTheLoudest bay = Due.told("s0512;s1730;");
        // The DRUM draws at even hours as long as it has POWDER: 9 times, till behind 17 hours.
        int[] hours = {-1, 0, 1, 2, 17, 18, 99, 100};
        int[] places = {-4, 15, 16, 15, 16, 15, 12, -6};
        int[] owners = {-4, -9, -9, -9, -9, -9, 0, -6};
        int[] joy = {-4, 0, 0, 0, 0, 0, 99 - 20, -6};
        int[] powder = {-4, 9, 8, 8, 0, 0, 0, -6};
        for (int i = 0; i < hours.length; i++) {
            due.is("behind(" + hours[i] + ", 0)", bay.behind(hours[i], 0), places[i]);
            due.is("behind(" + hours[i] + ", 1)", bay.behind(hours[i], 1), owners[i]);
            due.is("shoreBehind(0, " + hours[i] + ", 0)", bay.shoreBehind(0, hours[i], 0), joy[i]);
            due.is("shoreBehind(1, " + hours[i] + ", 1)", bay.shoreBehind(1, hours[i], 1), powder[i]);
        }
        due.is("PLACE, as it is in mind alone", bay.isleOf(0), 15);
        due.is("HOUR, as it is in mind alone", bay.count(1), 8);
        due.is("all JOY, as it is in mind alone", bay.count(4), 0);
        due.is("all POWDER, as it is in mind alone", bay.count(5), 18);
        due.is("behind(0, 1) of who HAS it", Due.told("s0500;s0015;").behind(0, 1), 1);
        due.is("behind(99, 0) of none", new TowardTheLoudest().behind(99, 0), 15);
        due.is("behind(99, 1) of none", new TowardTheLoudest().behind(99, 1), -9);
        due.is("behind(98, 0), a PLACE to go", Due.told(BEHIND_99).behind(98, 0), 4);
        due.is("behind(99, 0)", Due.told(BEHIND_99).behind(99, 0), 3);
        due.is("behind(99, 1)", Due.told(BEHIND_99).behind(99, 1), 0);
        due.is("shoreBehind(0, 98, 0)", Due.told(BEHIND_99).shoreBehind(0, 98, 0), 0);
        due.is("shoreBehind(0, 99, 0)", Due.told(BEHIND_99).shoreBehind(0, 99, 0), 1);
    }

    private void first() {
        due.says("FIRST: behind how many hours (0 .. 99) a SHORE HAS it first; -9;");
        due.is("first(0), behind 0 hours", Due.told("s0515;").first(0), 0);
        due.is("first(0), behind 1 hour", Due.told("s0514;").first(0), 1);
        due.is("first(0), behind 99 hours", Due.told(BEHIND_99).first(0), 99);
        due.is("first(0), behind 100 hours", Due.told(BEHIND_100).first(0), -9);
        due.is("first(0), never", Due.told("s0514;q0;").first(0), -9);
        due.is("first(0), the first of many times", Due.told(TO_AND_FRO).first(0), 5);
        due.is("first(0), though it has JOY", Due.told("s0515;h05;i16;").first(0), 1);
        due.is("first(1), on the way", Due.told("s0510;s0012;").first(1), 3);
        due.is("first(1), by which it passes", Due.told("s0510;s0012;v2;").first(1), -9);
        due.is("first(0) of none", new TowardTheLoudest().first(0), -1);
    }

    private void whoFirst() {
        due.says("WHO FIRST: the SHORE that HAS it first from now on (behind 0 hours, too); -9 none within 99.");
        due.is("whoFirst(0), behind 0 hours", Due.told("s0516;s0015;").whoFirst(0), 1);
        due.is("whoFirst(0), not any more", Due.told("s0516;s0015;i14;q0;").whoFirst(0), -9);
        due.is("whoFirst(0), on the way", Due.told("s0510;s0012;").whoFirst(0), 1);
        due.is("whoFirst(0), by which it passes", Due.told("s0510;s0012;v2;").whoFirst(0), 0);
        due.is("whoFirst(0), behind 99 hours", Due.told(BEHIND_99).whoFirst(0), 0);
        due.is("whoFirst(0), behind 100 hours", Due.told(BEHIND_100).whoFirst(0), -9);
        due.is("whoFirst(0) of none", new TowardTheLoudest().whoFirst(0), -9);
    }

    private void never() {
        due.says("NEVER: SHORES (bits) that do not have it behind 0 .. 99 hours.");
        due.is("whoFirst(1), it has it behind 0 hours", Due.told("s0516;s0015;").whoFirst(1), 0);
        due.is("whoFirst(1), it had it", Due.told("s0516;s0015;i16;").whoFirst(1), 2);
        due.is("whoFirst(1), it has it behind 99 hours", Due.told(BEHIND_99).whoFirst(1), 0);
        due.is("whoFirst(1), it has it behind 100 hours", Due.told(BEHIND_100).whoFirst(1), 1);
        due.is("whoFirst(1), by which it passes", Due.told("s0510;s0012;v2;").whoFirst(1), 2);
        due.is("whoFirst(1), all seven", Due.told("s0000;s0001;s0002;s0003;s0004;s0005;s0006;").whoFirst(1), 127);
        due.is("whoFirst(1), all but the seventh",
            Due.told("s0000;s0001;s0002;s0003;s0004;s0005;s0515;").whoFirst(1), 63);
        due.is("whoFirst(1) of none", new TowardTheLoudest().whoFirst(1), 0);
    }

    private void mostIs(String text, int n, int shore, int often) {
        due.is(text + " most(" + n + ", 0)", Due.told(text).most(n, 0), shore);
        due.is(text + " most(" + n + ", 1)", Due.told(text).most(n, 1), often);
    }

    private void most() {
        due.says("MOST: the SHORE that HAS it most often behind 1 .. n hours (0 .. 99), of several the least; "
            + "-9 none; how often.");
        mostIs("s0515;", -1, -4, -4);
        mostIs("s0515;", 0, -9, 0);
        mostIs("s0515;", 1, 0, 1);
        mostIs("s0515;", 99, 0, 99);
        mostIs("s0515;", 100, -6, -6);
        mostIs("v1;", 99, -9, 0);
        // Behind 0 hours it does not count, behind n it does.
        mostIs("s0516;s0015;", 0, -9, 0);
        mostIs("s0516;s0015;", 1, 0, 1);
        mostIs(BEHIND_99, 98, -9, 0);
        mostIs(BEHIND_99, 99, 0, 1);
        mostIs(TO_AND_FRO, 4, -9, 0);
        mostIs(TO_AND_FRO, 5, 0, 1);
        mostIs(TO_AND_FRO, 98, 0, 47);
        mostIs(TO_AND_FRO, 99, 0, 48);
        // From 12 to 11, 10, 11, 10 ..: both as often behind an even number of hours.
        mostIs("s0510;s0511;i12;", 1, 1, 1);
        mostIs("s0510;s0511;i12;", 2, 0, 1);
        mostIs("s0510;s0511;i12;", 3, 1, 2);
        mostIs("s0511;s0510;i12;", 2, 0, 1);
        mostIs("s0511;s0510;i12;", 3, 0, 2);
        mostIs("s0000;s0001;s0002;s0003;s0004;s0005;s0514;", 9, 6, 9);
        // JOY of before is not asked for.
        mostIs("s0015;h50;s0520;i19;", 2, 1, 2);
    }

    private void still() {
        due.says("STILL: behind how many hours (0 .. 99) first it moves not in the next one; -9.");
        due.is("whoFirst(2), at once", Due.told("s0515;").whoFirst(2), 0);
        due.is("whoFirst(2) of none", new TowardTheLoudest().whoFirst(2), 0);
        due.is("whoFirst(2), behind an hour", Due.told("s0514;").whoFirst(2), 1);
        due.is("whoFirst(2), at an odd hour", Due.told("s1500;").whoFirst(2), 1);
        due.is("whoFirst(2), never", Due.told(TO_AND_FRO).whoFirst(2), -9);
        // To and fro as long as the DRUM has POWDER at even hours, while the SHORE HAS it.
        due.is("whoFirst(2), behind 98 hours", Due.told("s0510;s1720;p149;i10;").whoFirst(2), 98);
        due.is("whoFirst(2), behind 99 hours", Due.told("s0510;s1720;h01;p149;i11;").whoFirst(2), 99);
        due.is("whoFirst(2), behind 100 hours", Due.told("s0510;s1720;p150;i10;").whoFirst(2), -9);
    }

    private void farthestIs(String text, int n, int least, int greatest) {
        due.is(text + " farthest(" + n + ", 0)", Due.told(text).farthest(n, 0), least);
        due.is(text + " farthest(" + n + ", 1)", Due.told(text).farthest(n, 1), greatest);
    }

    private void farthest() {
        due.says("FARTHEST: the least and the greatest PLACE it is at behind 0 .. n hours.");
        farthestIs("s0500;", -1, -4, -4);
        farthestIs("s0500;", 0, 15, 15);
        farthestIs("s0500;", 1, 14, 15);
        farthestIs("s0530;", 0, 15, 15);
        farthestIs("s0530;", 1, 15, 16);
        farthestIs("s0500;", 14, 1, 15);
        farthestIs("s0500;", 99, 0, 15);
        farthestIs("s0530;", 99, 15, 30);
        farthestIs("s0500;", 100, -6, -6);
        farthestIs("v1;", 99, 15, 15);
        farthestIs(BEHIND_99, 98, 4, 12);
        farthestIs(BEHIND_99, 99, 3, 12);
        // Up to the CANNON's side at 8, then down to the SHORE.
        farthestIs("s4830;v5;s0110;", 1, 15, 20);
        farthestIs("s4830;v5;s0110;", 2, 15, 20);
        farthestIs("s4830;v5;s0110;", 3, 10, 20);
        farthestIs("s4830;v5;s0110;", 12, 10, 20);
    }

    private void spent() {
        due.says("SPENT: how much POWDER all SHORES have less behind n hours.");
        TowardTheLoudest bay = Due.told("s4800;p010;s4930;s1701;s0502;");
        int[] hours = {-1, 0, 1, 2, 3, 4, 5, 99, 100};
        // At 8 the CANNON and the DRUM, at 9 the other CANNON, at 10, 12 .. the DRUM, at 20 the first.
        int[] spent = {-4, 0, 6, 11, 12, 12, 13, 24, -6};
        for (int i = 0; i < hours.length; i++) {
            due.is("spent(" + hours[i] + ")", bay.spent(hours[i]), spent[i]);
        }
        due.is("all POWDER, as before", bay.count(5), 10 + 9 + 9 + 9);
        due.is("spent(99) of none", new TowardTheLoudest().spent(99), 0);
        due.is("spent(99) without COSTS", Due.told("s0500;s2001;s5002;s1603;s3604;").spent(99), 0);
        bay.hushes(0);
        due.is("spent(99) without a QUIET one", bay.spent(99), 14);
    }

    private void ring() {
        due.says("RING: the least number of hours (1 .. 48) behind which THE ISLE is, with HOUR, where it was "
            + "behind n hours; -9.");
        due.is("ring(0) of none, with HOUR", new TowardTheLoudest().ring(0), 24);
        due.is("ring(99) of none", new TowardTheLoudest().ring(99), 24);
        due.is("ring(-1)", new TowardTheLoudest().ring(-1), -4);
        due.is("ring(100)", new TowardTheLoudest().ring(100), -6);
        due.is("ring(0), never there again", Due.told(TO_AND_FRO).ring(0), -9);
        due.is("ring(4), 11 as later on", Due.told(TO_AND_FRO).ring(4), 24);
        due.is("ring(3), 12 never again", Due.told(TO_AND_FRO).ring(3), -9);
        // The DRUM's last POWDER goes at 10 on the second day; by then THE ISLE is to and fro between 18
        // and 19, and behind it back to the CHOIR's 16, where it was behind an hour.
        String twoDays = "s3216;s1719;";
        due.is("ring(0), at 15 never again", Due.told(twoDays).ring(0), -9);
        due.is("behind(1, 0)", Due.told(twoDays).behind(1, 0), 16);
        due.is("behind(25, 0)", Due.told(twoDays).behind(25, 0), 18);
        due.is("behind(49, 0)", Due.told(twoDays).behind(49, 0), 16);
        due.is("ring(1), two days on", Due.told(twoDays).ring(1), 48);
        due.is("ring(25), at 18 never again", Due.told(twoDays).ring(25), -9);
        due.is("ring(49), where it stays", Due.told(twoDays).ring(49), 24);
    }
}
