/** Of what would have to be otherwise, word by word: HUSH to NEW SHORE, and SWAP. */
public final class WishEdgesTest {
    /** THE ISLE comes to 10 behind 5 hours, goes to 11, and is drawn back: 10 behind 5, 7, 9, .. */
    private static final String TO_AND_FRO = "s0510;s0520;";

    /** Two CANNONS, at 9 and at 8 just once each, hold THE ISLE up: it is at 20 behind 9 hours. */
    private static final String HELD_UP = "s4910;s4809;s0520;";

    /** Six louder ones, each of whom keeps THE ISLE from the seventh. */
    private static final String SIX_LOUDER = "s0900;s0901;s0902;s0903;s0904;s0905;s0520;";

    private final Due due = new Due("WishEdgesTest");

    public static void main(String[] args) {
        WishEdgesTest test = new WishEdgesTest();
        test.hush();
        test.hushOfSeveral();
        test.fewest();
        test.fewestOfSeveral();
        test.fromWhere();
        test.powderWanted();
        test.newShore();
        test.newShoreAsTold();
        test.swap();
        test.due.end();
    }

    private void hushIs(String text, int shore, int n, int hushed) {
        due.is(text + " hush(" + shore + ", " + n + ")", Due.told(text).hush(shore, n), hushed);
    }

    private void hush() {
        due.says("HUSH: the SHORE that, QUIET from now on, lets a told one have it most often behind 1 .. n hours, "
            + "more often than now, of several the least (itself not); -9;");
        hushIs(TO_AND_FRO, 1, -1, -4);
        hushIs(TO_AND_FRO, 1, 0, -9);
        hushIs(TO_AND_FRO, 1, 4, -9);
        hushIs(TO_AND_FRO, 1, 5, 0);
        hushIs(TO_AND_FRO, 1, 99, 0);
        hushIs(TO_AND_FRO, 1, 100, -6);
        // No more often than now, and more often.
        hushIs(TO_AND_FRO, 0, 5, -9);
        hushIs(TO_AND_FRO, 0, 6, 1);
        // Behind 0 hours it has it anyway.
        hushIs(TO_AND_FRO + "i10;", 0, 0, -9);
        hushIs(TO_AND_FRO + "i10;", 0, 1, 1);
        hushIs("s0520;", 0, 99, -9);
        hushIs("s0520;s0510;q1;", 0, 99, -9);
        // One that is QUIET stays so: not any more, it would draw THE ISLE by 10.
        hushIs("s0010;s0905;q1;", 0, 99, -9);
        // QUIET itself, it would have it behind 7 and 8 hours rather than behind 6.
        due.is("shoreBehind(0, 12, 0)", Due.told("s4119;s1723;").shoreBehind(0, 12, 0), 1);
        due.is("shoreBehind(0, 12, 0), QUIET", Due.told("s4119;s1723;q0;").shoreBehind(0, 12, 0), 2);
        hushIs("s4119;s1723;", 0, 12, -9);
    }

    private void hushOfSeveral() {
        hushIs(HELD_UP, 2, 6, -9);
        hushIs(HELD_UP, 2, 7, 0);
        hushIs(HELD_UP, 2, 9, 0);
        hushIs(HELD_UP + "q0;", 2, 7, 1);
        // With POWDER for 20, too, the second one holds it up once more.
        hushIs(HELD_UP + "p110;", 2, 11, 0);
        hushIs(HELD_UP + "p110;", 2, 12, 0);
        hushIs(HELD_UP + "p110;", 2, 13, 1);
        hushIs(HELD_UP + "p110;", 2, 99, 1);
        // The seventh of seven, behind just so many hours as it takes without it.
        hushIs("s0000;s0001;s0002;s0003;s0004;s0510;s0930;", 5, 4, -9);
        hushIs("s0000;s0001;s0002;s0003;s0004;s0510;s0930;", 5, 5, 6);
    }

    private void fewestIs(String text, int shore, int n, int bits) {
        due.is(text + " fewest(" + shore + ", " + n + ")", Due.told(text).fewest(shore, n), bits);
    }

    private void fewest() {
        due.says("FEWEST: the fewest SHORES (bits, not the told one, of several the least) that, QUIET too, let a "
            + "told one have it behind some of 1 .. n hours; -9.");
        fewestIs(TO_AND_FRO, 1, -1, -4);
        fewestIs(TO_AND_FRO, 1, 0, -9);
        fewestIs(TO_AND_FRO, 1, 4, -9);
        fewestIs(TO_AND_FRO, 1, 5, 1);
        fewestIs(TO_AND_FRO, 1, 99, 1);
        fewestIs(TO_AND_FRO, 1, 100, -6);
        // None have to be, or all of it is in vain.
        fewestIs(TO_AND_FRO, 0, 4, -9);
        fewestIs(TO_AND_FRO, 0, 5, 0);
        fewestIs("s0520;", 0, 5, 0);
        fewestIs("s0520;", 0, 4, -9);
        fewestIs("s0520;q0;", 0, 99, -9);
        // Behind 0 hours it does not count.
        fewestIs(TO_AND_FRO + "i20;", 1, 0, -9);
        fewestIs(TO_AND_FRO + "i20;", 1, 1, 1);
        fewestIs("s0015;", 0, 0, -9);
        fewestIs("s0015;", 0, 1, 0);
        fewestIs(SIX_LOUDER, 6, 4, -9);
        fewestIs(SIX_LOUDER, 6, 5, 63);
        fewestIs(SIX_LOUDER + "q2;q4;", 6, 5, 63 - 4 - 16);
        // One that is QUIET stays so: not any more, it would draw THE ISLE by 10.
        fewestIs("s0010;s0905;q1;", 0, 99, -9);
        // QUIET itself, it would have it behind 10 hours; it is the third one that has to be.
        fewestIs("s1611;s5507;s3513;i30;v2;", 0, 12, 4);
        fewestIs("s5507;s1611;s3513;i30;v2;", 1, 12, 4);
    }

    private void fewestOfSeveral() {
        fewestIs(HELD_UP, 2, 4, -9);
        fewestIs(HELD_UP, 2, 5, 3);
        fewestIs(HELD_UP, 2, 6, 3);
        fewestIs(HELD_UP, 2, 7, 1);
        fewestIs(HELD_UP, 2, 8, 1);
        fewestIs(HELD_UP, 2, 9, 0);
        // The CANNONS sound once each, the DRUM at 8 and at 10: 2 hours each time, of 10 in all.
        String held = "s4900;p005;s4101;p105;s1902;p202;s0525;";
        fewestIs(held, 3, 18, 0);
        fewestIs(held, 3, 17, 1);
        fewestIs(held, 3, 16, 1);
        // One of a greater number rather than two of lesser ones.
        fewestIs(held, 3, 14, 4);
        fewestIs(held, 3, 12, 5);
        fewestIs(held, 3, 10, 7);
        fewestIs(held, 3, 9, -9);
    }

    private void fromWhereIs(String text, int shore, int n, int many, int least) {
        String call = text + " fromWhere(" + shore + ", " + n + ", ";
        due.is(call + "0)", Due.told(text).fromWhere(shore, n, 0), many);
        due.is(call + "1)", Due.told(text).fromWhere(shore, n, 1), least);
    }

    private void fromWhere() {
        due.says("FROM WHERE: PLACES (how many; the least; -9) THE ISLE could be at now so that a told SHORE HAS it "
            + "behind just n hours.");
        fromWhereIs("s0510;", 0, -1, -4, -4);
        fromWhereIs("s0510;", 0, 0, 1, 10);
        fromWhereIs("s0510;", 0, 1, 3, 9);
        fromWhereIs("s0510;", 0, 10, 21, 0);
        fromWhereIs("s0510;", 0, 19, 30, 0);
        fromWhereIs("s0510;", 0, 20, 31, 0);
        fromWhereIs("s0510;", 0, 99, 31, 0);
        fromWhereIs("s0510;", 0, 100, -6, -6);
        // Both ends are PLACES, and no others are.
        fromWhereIs("s0500;", 0, 0, 1, 0);
        fromWhereIs("s0500;", 0, 1, 2, 0);
        fromWhereIs("s0530;", 0, 0, 1, 30);
        fromWhereIs("s0530;", 0, 1, 2, 29);
        fromWhereIs("s0510;v5;", 0, 1, 11, 5);
        fromWhereIs("s0510;q0;", 0, 0, 1, 10);
        fromWhereIs("s0510;q0;", 0, 99, 1, 10);
        // From 30 it goes to 29, and nothing draws it there.
        fromWhereIs("s0510;s0530;q1;", 1, 1, 0, -9);
        // From 12 and 8 it comes there behind 2 hours, from 10 it comes back; from 9 and 11 it is gone.
        fromWhereIs(TO_AND_FRO, 0, 2, 3, 8);
        // Where THE ISLE is now does not matter, nor JOY.
        fromWhereIs("s0510;h20;i30;", 0, 1, 3, 9);
    }

    private void wantedIs(String text, int shore, int n, int v, int often) {
        String call = text + " powderWanted(" + shore + ", " + n + ", ";
        due.is(call + "0)", Due.told(text).powderWanted(shore, n, 0), v);
        due.is(call + "1)", Due.told(text).powderWanted(shore, n, 1), often);
    }

    private void powderWanted() {
        due.says("POWDER WANTED: the least POWDER (0 .. 99) of a SHORE by which it HAS THE ISLE most often behind "
            + "1 .. n hours (of all such numbers the least); how often.");
        // At even hours the DRUM draws THE ISLE to it, if it has POWDER, at odd ones the SHORE away.
        String drum = "s1910;s0930;i11;";
        wantedIs(drum, 0, -1, -4, -4);
        wantedIs(drum, 0, 0, 0, 0);
        wantedIs(drum, 0, 1, 1, 1);
        wantedIs(drum, 0, 2, 1, 1);
        wantedIs(drum, 0, 3, 2, 2);
        wantedIs(drum, 0, 98, 49, 49);
        wantedIs(drum, 0, 99, 50, 50);
        wantedIs(drum, 0, 100, -6, -6);
        wantedIs(drum + "p099;", 0, 99, 50, 50);
        wantedIs(drum + "p000;", 0, 99, 50, 50);
        // Just as much as it COSTS, and with none where it COSTS nothing or comes in no case.
        wantedIs("s4814;p099;", 0, 1, 5, 1);
        wantedIs("s4814;p000;", 0, 9, 5, 9);
        wantedIs("s4813;", 0, 12, 0, 0);
        wantedIs("s4813;", 0, 13, 10, 1);
        wantedIs("s0510;p000;", 0, 20, 0, 16);
        wantedIs("s1610;p099;", 0, 20, 0, 12);
        wantedIs("s4815;", 0, 9, 0, 9);
        wantedIs("s4814;q0;", 0, 9, 0, 0);
        // Less is better: without a sound the DRUM alone draws THE ISLE by 19, behind 7 and 8 hours.
        wantedIs("s4119;s1723;p099;", 0, 12, 0, 2);
        // The SHORE takes back at odd hours what the DRUM draws: it never comes, and wants none.
        wantedIs("s1713;s0930;", 0, 9, 0, 0);
        due.is("POWDER, as before", Due.told("s4814;p099;").shoreOf(0, 3), 99);
    }

    private void newShoreIs(String text, int kind, int n, int place, int often) {
        String call = text + " newShore(" + kind + ", " + n + ", ";
        due.is(call + "0)", Due.told(text).newShore(kind, n, 0), place);
        due.is(call + "1)", Due.told(text).newShore(kind, n, 1), often);
    }

    private void newShore() {
        due.says("NEW SHORE: the free PLACE for a SHORE more of a KIND (FIGURE 5, POWDER 9; as the last number) from "
            + "which it would have it most often behind 1 .. n hours, of several the least; -9 there are 7; how often.");
        newShoreIs("v1;", 0, -1, -4, -4);
        newShoreIs("v1;", 0, 0, 0, 0);
        newShoreIs("v1;", 0, 1, 14, 1);
        newShoreIs("v1;", 0, 99, 14, 99);
        newShoreIs("v1;", 0, 100, -6, -6);
        newShoreIs("v1;", -1, 9, -2, -2);
        newShoreIs("v1;", 6, 9, -2, -2);
        newShoreIs("v1;", 5, 1, 14, 1);
        newShoreIs("v5;", 0, 1, 10, 1);
        // Both ends, and a PLACE that is not free.
        newShoreIs("i00;", 0, 9, 0, 9);
        newShoreIs("i30;", 0, 9, 29, 9);
        newShoreIs("i30;", 4, 9, 30, 9);
        newShoreIs("s0014;", 0, 9, 15, 9);
        newShoreIs("s0014;s0015;", 0, 9, 16, 9);
        newShoreIs("s0000;s0001;", 0, 0, 2, 0);
        newShoreIs("s0000;s0001;s0002;s0003;s0004;s0005;", 0, 0, 6, 0);
        newShoreIs("s0000;s0001;s0002;s0003;s0004;s0005;s0006;", 0, 0, -9, -9);
        newShoreIs("s0000;s0001;s0002;s0003;s0004;s0005;s0006;", 5, 99, -9, -9);
        due.is("count(0), as before", newShoreIn("s0014;"), 1);
    }

    private static int newShoreIn(String text) {
        TowardTheLoudest bay = Due.told(text);
        bay.newShore(0, 9, 0);
        return bay.count(0);
    }

    private void newShoreAsTold() {
        // FIGURE 5: louder than FALLS, no louder than 5; a CANNON sounds at 17, behind 10 hours.
        newShoreIs("s2014;", 0, 1, 16, 1);
        newShoreIs("s0414;", 0, 1, 16, 1);
        newShoreIs("s0015;", 4, 9, 0, 0);
        newShoreIs("s0015;", 4, 10, 14, 1);
        // POWDER 9: enough for the CANNON at 17, and not for a second time at 5.
        newShoreIs("s0014;s0015;s0016;", 4, 99, 0, 0);
        // As the last number: of two as loud and as near the one at 14 draws THE ISLE.
        newShoreIs("s0514;", 0, 1, 0, 0);
    }

    private void swapIs(String text, int shore, int n, int pair) {
        due.is(text + " swap(" + shore + ", " + n + ")", Due.told(text).swap(shore, n), pair);
    }

    private void swap() {
        due.says("SWAP: two SHORES (10 the lesser and the other) that, changing PLACES, let a told one have it most "
            + "often behind 1 .. n hours, more often than now, of several the first; -9.");
        // With the loud one at 5 or at 4 THE ISLE comes by 10 behind 5 hours.
        String bay = "s0510;s0920;s0005;s0004;";
        swapIs(bay, 0, -1, -4);
        swapIs(bay, 0, 0, -9);
        swapIs(bay, 0, 4, -9);
        swapIs(bay, 0, 5, 12);
        swapIs(bay, 0, 100, -6);
        swapIs("s0510;s0920;s0021;s0004;", 0, 5, 13);
        // No more often than now.
        swapIs(bay, 1, 10, -9);
        swapIs("s0510;", 0, 99, -9);
        swapIs("s0510;s0530;q0;q1;", 0, 99, -9);
        // Its own PLACE, too, and the two of the greatest numbers.
        swapIs("s0016;s0020;s0530;", 2, 1, 2);
        swapIs("s0010;s0920;s0018;", 0, 2, -9);
        swapIs("s0010;s0920;s0018;", 0, 3, 2);
        swapIs("s0900;s0001;s0002;s0003;s0004;s0020;s0014;", 5, 1, 56);
        // At 20 it would be from behind 5 hours on, at 16 from behind 1: the better one, not the first.
        swapIs("s0530;s0020;s0016;", 0, 1, 2);
        swapIs("s0530;s0020;s0016;", 0, 99, 2);
        due.is("PLACE, as before", swapIn(bay), 20);
    }

    private static int swapIn(String text) {
        TowardTheLoudest bay = Due.told(text);
        bay.swap(0, 5);
        return bay.shoreOf(1, 2);
    }
}
