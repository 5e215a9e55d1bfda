/** Promises 26, 27 and 39. */
public final class ChanceTest {
    private static final long REFUSED = 4000000000000000000L;

    private final Due due = new Due("ChanceTest");

    public static void main(String[] args) {
        ChanceTest test = new ChanceTest();
        test.treaty();
        test.treatyRefused();
        test.thunder();
        test.thunderAtTheEnds();
        test.thunderRefused();
        test.lots();
        test.lotsQuiet();
        test.lotsRefused();
        test.due.end();
    }

    private void treatyIs(String text, int one, int other, int pair, int kept) {
        TowardTheLoudest bay = Due.told(text);
        due.is(text + " treaty(" + one + ", " + other + ", 0)", bay.treaty(one, other, 0), pair);
        due.is(text + " treaty(" + one + ", " + other + ", 1)", bay.treaty(one, other, 1), kept);
        due.is("QUIET ones, as before", bay.count(3), Due.told(text).count(3));
        due.is("HOUR, as before", bay.count(1), Due.told(text).count(1));
    }

    private void treaty() {
        // Neither is reached in 12 hours whatever they do.
        treatyIs("s0500;s0530;", 0, 1, 0, 1);
        // Both loud: at 10 behind 5, 7, 9, 11 hours, never at 20.
        treatyIs("s0510;s0520;", 0, 1, 10, 0);
        treatyIs("s0510;s0520;", 1, 0, 1, 0);
        treatyIs("s0510;s0520;q0;q1;", 0, 1, 10, 0);
        // 13 hours to it are too many, 12 are not.
        treatyIs("s0502;s0530;", 0, 1, 0, 1);
        treatyIs("s0503;s0530;", 0, 1, 10, 0);
        // The other one's way to 0 leads by 3, so that the first may be QUIET, too.
        treatyIs("s0503;s0500;", 0, 1, 1, 0);
        // At 10 with both loud: from 10 it goes to 11 and back, so that each has it each other hour.
        treatyIs("s5310;s5411;i11;", 0, 1, 11, 0);
        // The DRUM is too far, but at even hours it holds up what the SHORE draws.
        treatyIs("s0715;s1901;i10;", 0, 1, 1, 0);
        // They have it 4 and 0, 0 and 6, 3 and 2, 5 and 1 times: by each pair one would do otherwise.
        treatyIs("h03;s0626;s2224;s5713;s3620;s5822;s1729;i26;p005;v4;", 0, 1, -9, 0);
        // A third one has it anyway.
        treatyIs("s0510;s0520;s0300;", 2, 1, 0, 1);
    }

    private void treatyRefused() {
        TowardTheLoudest bay = Due.told("s0510;s0520;");
        due.is("treaty(2, 0, 2)", bay.treaty(2, 0, 2), -1);
        due.is("treaty(0, 2, 0)", bay.treaty(0, 2, 0), -1);
        due.is("treaty(-1, 0, 0)", bay.treaty(-1, 0, 0), -1);
        due.is("treaty(0, -1, 0)", bay.treaty(0, -1, 0), -1);
        due.is("treaty(1, 1, 2)", bay.treaty(1, 1, 2), -1);
        due.is("treaty(0, 1, 2)", bay.treaty(0, 1, 2), -2);
        due.is("treaty(0, 1, -1)", bay.treaty(0, 1, -1), -2);
    }

    private void thunderIs(String text, int n, int t, long above, long below) {
        TowardTheLoudest bay = Due.told(text);
        due.is(text + " thunder(0, " + n + ", " + t + ", 0)", bay.thunder(0, n, t, 0), above);
        due.is(text + " thunder(0, " + n + ", " + t + ", 1)", bay.thunder(0, n, t, 1), below);
        due.is("HOUR, as before", bay.count(1), 8);
        due.is("PLACE, as before", bay.isleOf(0), Due.told(text).isleOf(0));
    }

    private void thunder() {
        thunderIs("s0510;i10;", 0, 2, 1, 1);
        thunderIs("s0510;", 0, 20, 0, 1);
        thunderIs("s0510;i11;", 1, 2, 1, 2);
        thunderIs("s0510;i11;", 1, 20, 19, 20);
        // As it HAS THE ISLE there is no LOUDEST, and thunder drives it nowhere.
        thunderIs("s0510;i10;", 7, 2, 1, 1);
        thunderIs("s0510;i12;", 2, 3, 4, 9);
        thunderIs("s0510;i12;", 1, 3, 0, 1);
        thunderIs("s0508;", 7, 20, 893871739, 1280000000);
        thunderIs("s0508;i16;", 7, 20, 0, 1);
        // Once away and thrice towards it, or twice towards it: 1/4 and 2 of 16.
        thunderIs("s0510;i12;", 4, 2, 3, 8);
        thunderIs("s0510;i12;", 4, 4, (9 * 16 + 2 * 27) / 2, 128);
        // The CANNON sounds at 8 alone: behind that hour nothing is drawn or driven.
        thunderIs("s4816;", 7, 5, 4, 5);
        // Away from the one is towards the other.
        thunderIs("s0014;s0516;", 1, 3, 1, 3);
        thunderIs("s0010;s0516;v5;", 1, 7, 1, 7);
        // PACE 2 and no farther towards it, 2 away from it.
        thunderIs("s0513;i14;v2;", 1, 2, 1, 2);
        thunderIs("s0513;i14;v2;", 2, 2, 1, 2);
        thunderIs("s0513;i15;v2;", 3, 2, 5, 8);
    }

    private void thunderAtTheEnds() {
        thunderIs("s0529;i30;", 2, 2, 3, 4);
        thunderIs("s0501;i00;", 2, 2, 3, 4);
        thunderIs("s0527;i28;v5;", 2, 2, 3, 4);
        thunderIs("s0503;i02;v5;", 2, 2, 3, 4);
        thunderIs("s0030;s0520;i29;", 1, 5, 1, 5);
        thunderIs("s0030;s0520;i27;v4;", 1, 5, 1, 5);
        thunderIs("s0000;s0520;i02;v3;", 1, 5, 1, 5);
    }

    private void thunderRefused() {
        TowardTheLoudest bay = Due.told("s0510;");
        due.is("thunder(1, -1, 1, 2)", bay.thunder(1, -1, 1, 2), REFUSED + 1);
        due.is("thunder(-1, 0, 2, 0)", bay.thunder(-1, 0, 2, 0), REFUSED + 1);
        due.is("thunder(0, -1, 21, 2)", bay.thunder(0, -1, 21, 2), REFUSED + 4);
        due.is("thunder(0, 8, 1, 2)", bay.thunder(0, 8, 1, 2), REFUSED + 4);
        due.is("thunder(0, 8, 2, 2)", bay.thunder(0, 8, 2, 2), REFUSED + 6);
        due.is("thunder(0, 0, 21, 2)", bay.thunder(0, 0, 21, 2), REFUSED + 6);
        due.is("thunder(0, 7, 20, 2)", bay.thunder(0, 7, 20, 2), REFUSED + 2);
        due.is("thunder(0, 7, 20, -1)", bay.thunder(0, 7, 20, -1), REFUSED + 2);
        int[] counts = {2, 2, 0, 2, 0, 2};
        for (int i = 0; i < 6; i++) {
            due.is("count(" + (11 + i) + ")", bay.count(11 + i), counts[i]);
        }
    }

    private void lotsAre(String text, int n, int z, int joy, int ends) {
        TowardTheLoudest bay = Due.told(text);
        due.is(text + " lots(" + n + ", " + z + ", 0)", bay.lots(n, z, 0), joy);
        due.is(text + " lots(" + n + ", " + z + ", 1)", bay.lots(n, z, 1), ends);
        due.is("PLACE, as before", bay.isleOf(0), Due.told(text).isleOf(0));
        due.is("QUIET ones, as before", bay.count(3), Due.told(text).count(3));
        due.is("JOY, as before", bay.count(4), Due.told(text).count(4));
    }

    /** The first DRAWS below 31 of the seeds 5, -1, 0 and 2147483647 are 24, 26, 0 and 26. */
    private void lots() {
        lotsAre("s0524;", 1, 5, 24, 1);
        lotsAre("s0526;", 1, -1, 24, 1);
        lotsAre("s0500;", 1, 0, 24, 1);
        lotsAre("s0526;", 1, 2147483647, 24, 1);
        lotsAre("s0024;", 1, -1, 0, 0);
        // Seed 5 DRAWS 24, 1, then for a second bay 14 and so on; with no SHORES 24, 25, 14.
        lotsAre("v1;", 20, 5, 0, 0);
        lotsAre("s0023;", 1, 5, 0, 0);
        lotsAre("s0014;", 2, 5, 24, 1);
        lotsAre("s0525;", 1, 5, 24, 1);
        lotsAre("s0520;", 1, 5, 21, 1);
        // From 24 there behind 4 hours, from 14 behind 6, and at 25 it is QUIET.
        lotsAre("s0520;", 2, 5, 21 + 19, 2);
        lotsAre("s0520;", 3, 5, 21 + 19, 2);
        // JOY that it has now is not counted.
        lotsAre("s0520;i20;h09;i15;q0;", 1, 5, 21, 1);
    }

    /** Seed 0 DRAWS 0, then 0, 2 below 4; seed 7 DRAWS 3, then 2, 0; seed 1 DRAWS 5, then 2, 1. */
    private void lotsQuiet() {
        lotsAre("s0505;", 1, 0, 0, 0);
        lotsAre("s0508;", 1, 7, 20, 1);
        lotsAre("s0508;s0905;", 1, 7, 21, 1);
        lotsAre("s0508;s0905;q0;", 1, 7, 21, 1);
        // At 8 behind 3 hours, then at 9 and 8 by turns.
        lotsAre("s0509;s0508;q0;q1;", 1, 1, 22, 1);
    }

    private void lotsRefused() {
        TowardTheLoudest bay = Due.told("s0510;");
        due.is("lots(0, 0, 2)", bay.lots(0, 0, 2), -4);
        due.is("lots(-1, 0, 0)", bay.lots(-1, 0, 0), -4);
        due.is("lots(21, 0, 2)", bay.lots(21, 0, 2), -6);
        due.is("lots(20, 0, 2)", bay.lots(20, 0, 2), -2);
        due.is("lots(20, 0, -1)", bay.lots(20, 0, -1), -2);
    }
}
