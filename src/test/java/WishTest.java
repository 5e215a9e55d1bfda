/** Promises 20 to 24 and 34: what would have to be otherwise. */
public final class WishTest {
    private final Due due = new Due("WishTest");

    public static void main(String[] args) {
        WishTest test = new WishTest();
        test.hush();
        test.fewest();
        test.fromWhere();
        test.powderWanted();
        test.newShore();
        test.swap();
        test.refusals();
        test.nothingChanges();
        test.due.end();
    }

    /** THE ISLE comes to 10 behind 5 hours, goes to 11, and is drawn back: 10 behind 5, 7, 9, .. */
    private static TowardTheLoudest toAndFro() {
        return Due.told("s0510;s0520;");
    }

    /** Two CANNONS, at 9 and at 8 just once each, hold THE ISLE up: it is at 20 behind 9 hours. */
    private static TowardTheLoudest heldUpTwice() {
        return Due.told("s4910;s4809;s0520;");
    }

    private void hush() {
        TowardTheLoudest bay = toAndFro();
        due.is("hush(1, 99)", bay.hush(1, 99), 0);
        due.is("hush(1, 5)", bay.hush(1, 5), 0);
        due.is("hush(1, 4), as it comes in none", bay.hush(1, 4), -9);
        due.is("hush(0, 99)", bay.hush(0, 99), 1);
        due.is("hush(0, 6)", bay.hush(0, 6), 1);
        due.is("hush(0, 5), no more often than now", bay.hush(0, 5), -9);
        due.is("hush(0, 0)", bay.hush(0, 0), -9);
        TowardTheLoudest held = heldUpTwice();
        due.is("first(2)", held.first(2), 9);
        due.is("hush(2, 9), the least of two", held.hush(2, 9), 0);
        due.is("hush(2, 7), the least of two", held.hush(2, 7), 0);
        due.is("hush(2, 6)", held.hush(2, 6), -9);
        held.powders(1, 10);
        due.is("hush(2, 30), of whom one sounds once more", held.hush(2, 30), 1);
        held.hushes(0);
        due.is("hush(2, 7), as one is QUIET anyway", held.hush(2, 7), 1);
        due.is("hush(2, 4), as one is QUIET anyway", held.hush(2, 4), -9);
        // Not QUIET any more, the one at 5 would draw it by 10; but it stays QUIET.
        due.is("hush(0, 9) of one that is QUIET", Due.told("s0010;s0905;q1;").hush(0, 9), -9);
        due.is("fewest(0, 9) of one that is QUIET", Due.told("s0010;s0905;q1;").fewest(0, 9), -9);
        // The DRUM draws it by 19 behind 7 and 8 hours; the CANNON at 13 lets it be there behind 6 alone.
        TowardTheLoudest own = Due.told("s4119;s1723;");
        due.is("shoreBehind(0, 12, 0)", own.shoreBehind(0, 12, 0), 1);
        due.is("hush(0, 12), itself not", own.hush(0, 12), -9);
        own.hushes(0);
        due.is("shoreBehind(0, 12, 0), itself QUIET", own.shoreBehind(0, 12, 0), 2);
    }

    private void fewest() {
        TowardTheLoudest bay = toAndFro();
        due.is("fewest(1, 99)", bay.fewest(1, 99), 1);
        due.is("fewest(1, 5)", bay.fewest(1, 5), 1);
        due.is("fewest(1, 4)", bay.fewest(1, 4), -9);
        due.is("fewest(0, 5), none have to", bay.fewest(0, 5), 0);
        due.is("fewest(0, 4)", bay.fewest(0, 4), -9);
        due.is("fewest(0, 0)", bay.fewest(0, 0), -9);
        bay.isle(0, 20);
        due.is("fewest(1, 0), as behind 0 hours does not count", bay.fewest(1, 0), -9);
        due.is("fewest(1, 1), had it now", bay.fewest(1, 1), 1);
        due.is("fewest(2, 99), two", Due.told("s0910;s0911;s0520;").fewest(2, 99), 3);
        due.is("fewest(1, 99), two", Due.told("s0910;s0520;s0911;").fewest(1, 99), 5);
        due.is("fewest(2, 7), the least of two", heldUpTwice().fewest(2, 7), 1);
        due.is("fewest(2, 5), both", heldUpTwice().fewest(2, 5), 3);
        due.is("fewest(2, 9), none have to", heldUpTwice().fewest(2, 9), 0);
        // QUIET itself it would be passed, too, as the BREATH draws it on from 13.
        due.is("fewest(0, 12), itself not", Due.told("s1611;s5507;s3513;i30;v2;").fewest(0, 12), 4);
        due.is("fewest(1, 12), itself not", Due.told("s5507;s1611;s3513;i30;v2;").fewest(1, 12), 4);
        due.is("fewest(0, 99), itself QUIET", Due.told("s0510;s0520;q0;").fewest(0, 99), -9);
        // The DRUM holds it up at 8 and 10, the CANNONS at 9 and 13: 2 hours each, of 10.
        TowardTheLoudest held = Due.told("s4900;p005;s4101;p105;s1902;p202;s0525;");
        due.is("first(3)", held.first(3), 18);
        due.is("fewest(3, 14), one rather than two of lesser numbers", held.fewest(3, 14), 4);
        due.is("fewest(3, 16), the least of three", held.fewest(3, 16), 1);
        due.is("fewest(3, 12)", held.fewest(3, 12), 5);
        due.is("fewest(3, 10)", held.fewest(3, 10), 7);
        due.is("fewest(3, 9)", held.fewest(3, 9), -9);
    }

    private void fromWhere() {
        TowardTheLoudest one = Due.told("s0510;");
        fromWhereIs(one, 0, 0, 1, 10);
        fromWhereIs(one, 0, 1, 3, 9);
        fromWhereIs(one, 0, 5, 11, 5);
        fromWhereIs(one, 0, 19, 30, 0);
        fromWhereIs(one, 0, 20, 31, 0);
        fromWhereIs(one, 0, 99, 31, 0);
        one.isle(1, 5);
        fromWhereIs(one, 0, 1, 11, 5);
        one.hushes(0);
        fromWhereIs(one, 0, 99, 1, 10);
        // From 20 it is drawn to 19, from 19 and 21 to 20.
        fromWhereIs(toAndFro(), 1, 1, 2, 19);
        // From 30 alone it would be there, and from there it goes to 29.
        fromWhereIs(Due.told("s0510;s0530;q1;"), 1, 1, 0, -9);
        fromWhereIs(Due.told("s0510;s0530;q1;"), 1, 0, 1, 30);
    }

    private void fromWhereIs(TowardTheLoudest bay, int shore, int n, int many, int least) {
        due.is("fromWhere(" + shore + ", " + n + ", 0)", bay.fromWhere(shore, n, 0), many);
        due.is("fromWhere(" + shore + ", " + n + ", 1)", bay.fromWhere(shore, n, 1), least);
    }

    private void powderWanted() {
        TowardTheLoudest cannon = Due.told("s4814;p099;");
        powderWantedIs(cannon, 0, 9, 5, 9);
        powderWantedIs(cannon, 0, 0, 0, 0);
        due.is("POWDER, as before", cannon.shoreOf(0, 3), 99);
        // At 8 to 14, at 20 to 13: a second time.
        powderWantedIs(Due.told("s4813;"), 0, 12, 0, 0);
        powderWantedIs(Due.told("s4813;"), 0, 13, 10, 1);
        powderWantedIs(Due.told("s4812;"), 0, 25, 15, 1);
        powderWantedIs(Due.told("s4808;"), 0, 99, 35, 27);
        // A DRUM of FIGURE 7 needs to sound at 8, 10, 12, 14 and 16.
        powderWantedIs(Due.told("s1710;p000;"), 0, 8, 0, 0);
        powderWantedIs(Due.told("s1710;p000;"), 0, 20, 5, 12);
        powderWantedIs(Due.told("s1610;p000;"), 0, 20, 0, 12);
        powderWantedIs(Due.told("s0510;p000;"), 0, 20, 0, 16);
        powderWantedIs(Due.told("s0514;s4813;p100;"), 1, 1, 0, 0);
        powderWantedIs(Due.told("s0515;s4814;p100;"), 1, 1, 5, 1);
    }

    private void powderWantedIs(TowardTheLoudest bay, int shore, int n, int v, int often) {
        due.is("powderWanted(" + shore + ", " + n + ", 0)", bay.powderWanted(shore, n, 0), v);
        due.is("powderWanted(" + shore + ", " + n + ", 1)", bay.powderWanted(shore, n, 1), often);
    }

    private void newShore() {
        TowardTheLoudest none = new TowardTheLoudest();
        for (int kind : new int[] {0, 1, 2, 3, 5}) {
            newShoreIs(none, kind, 9, 14, 9);
        }
        // The CANNON of FIGURE 5 sounds at 17.
        newShoreIs(none, 4, 9, 15, 9);
        newShoreIs(none, 4, 10, 15, 10);
        newShoreIs(none, 0, 0, 0, 0);
        none.hours(1);
        newShoreIs(none, 1, 9, 15, 9);
        newShoreIs(none, 0, 9, 14, 9);
        TowardTheLoudest bay = Due.told("s0300;s0314;");
        newShoreIs(bay, 0, 0, 1, 0);
        newShoreIs(bay, 0, 1, 16, 1);
        // Just louder than the FALLS, where it is no nearer.
        newShoreIs(Due.told("s2014;"), 0, 1, 16, 1);
        newShoreIs(Due.told("i30;"), 4, 9, 30, 9);
        newShoreIs(Due.told("i00;"), 4, 9, 0, 9);
        // It is drawn to 0, by 14 behind 1 hour: that is where a CANNON without a sound has it.
        newShoreIs(Due.told("s0600;"), 4, 1, 14, 1);
        // At 1 it is behind 14, 16, .. hours: from 0 it is drawn back each time.
        newShoreIs(Due.told("s0600;"), 0, 99, 1, 43);
        TowardTheLoudest full = Due.told("s0000;s0001;s0002;s0003;s0004;s0005;");
        newShoreIs(full, 0, 9, 14, 9);
        full.shore(0, 0, 6);
        newShoreIs(full, 0, 9, -9, -9);
        due.is("count(0)", full.count(0), 7);
    }

    private void newShoreIs(TowardTheLoudest bay, int kind, int n, int place, int often) {
        due.is("newShore(" + kind + ", " + n + ", 0)", bay.newShore(kind, n, 0), place);
        due.is("newShore(" + kind + ", " + n + ", 1)", bay.newShore(kind, n, 1), often);
    }

    private void swap() {
        // THE ISLE goes to 20; with the loud one at 5 or 4 it comes by 10 behind 5 hours.
        TowardTheLoudest bay = Due.told("s0510;s0920;s0005;s0004;");
        due.is("swap(0, 10), the first of two", bay.swap(0, 10), 12);
        due.is("swap(0, 5)", bay.swap(0, 5), 12);
        due.is("swap(0, 4)", bay.swap(0, 4), -9);
        due.is("swap(0, 0)", bay.swap(0, 0), -9);
        due.is("swap(1, 10), no more often than now", bay.swap(1, 10), -9);
        due.is("swap(0, 9) of one SHORE", Due.told("s0510;").swap(0, 9), -9);
        due.is("swap(0, 3), of itself, too", Due.told("s0010;s0920;s0018;").swap(0, 3), 2);
        TowardTheLoudest last = Due.told("s0900;s0001;s0002;s0003;s0004;s0020;s0014;");
        due.is("swap(5, 1), the last two", last.swap(5, 1), 56);
        // At 20 it would be from behind 5 hours on, at 16 from behind 1, at 30 from behind 15.
        TowardTheLoudest better = Due.told("s0530;s0020;s0016;");
        due.is("swap(0, 20), the better of two", better.swap(0, 20), 2);
        due.is("swap(0, 1)", better.swap(0, 1), 2);
        due.is("PLACE, as before", better.shoreOf(0, 2), 30);
    }

    private void refusals() {
        TowardTheLoudest bay = toAndFro();
        due.is("hush(2, -1)", bay.hush(2, -1), -1);
        due.is("hush(-1, 0)", bay.hush(-1, 0), -1);
        due.is("hush(1, -1)", bay.hush(1, -1), -4);
        due.is("hush(1, 100)", bay.hush(1, 100), -6);
        due.is("fewest(2, 100)", bay.fewest(2, 100), -1);
        due.is("fewest(-1, 0)", bay.fewest(-1, 0), -1);
        due.is("fewest(1, -1)", bay.fewest(1, -1), -4);
        due.is("fewest(1, 100)", bay.fewest(1, 100), -6);
        due.is("swap(2, 100)", bay.swap(2, 100), -1);
        due.is("swap(-1, 0)", bay.swap(-1, 0), -1);
        due.is("swap(1, -1)", bay.swap(1, -1), -4);
        due.is("swap(1, 100)", bay.swap(1, 100), -6);
        due.is("fromWhere(2, -1, 2)", bay.fromWhere(2, -1, 2), -1);
        due.is("fromWhere(1, -1, 2)", bay.fromWhere(1, -1, 2), -4);
        due.is("fromWhere(1, 100, 2)", bay.fromWhere(1, 100, 2), -6);
        due.is("fromWhere(1, 99, 2)", bay.fromWhere(1, 99, 2), -2);
        due.is("powderWanted(2, -1, 2)", bay.powderWanted(2, -1, 2), -1);
        due.is("powderWanted(1, -1, 2)", bay.powderWanted(1, -1, 2), -4);
        due.is("powderWanted(1, 100, 2)", bay.powderWanted(1, 100, 2), -6);
        due.is("powderWanted(1, 99, 2)", bay.powderWanted(1, 99, 2), -2);
        due.is("newShore(6, -1, 0)", bay.newShore(6, -1, 0), -2);
        due.is("newShore(-1, 100, 0)", bay.newShore(-1, 100, 0), -2);
        due.is("newShore(5, -1, 2)", bay.newShore(5, -1, 2), -2);
        due.is("newShore(5, 100, -1)", bay.newShore(5, 100, -1), -2);
        due.is("newShore(5, -1, 1)", bay.newShore(5, -1, 1), -4);
        due.is("newShore(5, 100, 1)", bay.newShore(5, 100, 1), -6);
        int[] counts = {8, 6, 0, 6, 0, 6};
        for (int i = 0; i < 6; i++) {
            due.is("count(" + (11 + i) + ")", bay.count(11 + i), counts[i]);
        }
    }

    private void nothingChanges() {
        TowardTheLoudest bay = Due.told("s4910;s4809;s0520;");
        bay.hush(2, 99);
        bay.fewest(2, 99);
        bay.fromWhere(2, 99, 0);
        bay.powderWanted(0, 99, 0);
        bay.newShore(0, 99, 0);
        bay.swap(2, 99);
        due.is("SHORES, as before", bay.count(0), 3);
        due.is("HOUR, as before", bay.count(1), 8);
        due.is("QUIET ones, as before", bay.count(3), 0);
        due.is("JOY, as before", bay.count(4), 0);
        due.is("POWDER, as before", bay.count(5), 27);
        due.is("PLACE of THE ISLE, as before", bay.isleOf(0), 15);
        due.is("PLACE of a SHORE, as before", bay.shoreOf(2, 2), 20);
    }
}
