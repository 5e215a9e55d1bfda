/** Promises 10 and 11. */
public final class HoursTest {
    private final Due due = new Due("HoursTest");

    public static void main(String[] args) {
        HoursTest test = new HoursTest();
        test.driftsToTheOneShore();
        test.driftsByPaceNoFarther();
        test.driftsOnlyWhileItSounds();
        test.powderGoes();
        test.ofSeveralLoudest();
        test.joyEndsAt999();
        test.hoursAndDays();
        test.backWithEachChange();
        test.backEightAtMost();
        test.due.end();
    }

    private void driftsToTheOneShore() {
        TowardTheLoudest bay = Due.told("s0510;");
        due.is("hours(1)", bay.hours(1), 14);
        due.is("hours(3)", bay.hours(3), 11);
        due.is("JOY, not there yet", bay.shoreOf(0, 5), 0);
        due.is("hours(1)", bay.hours(1), 10);
        due.is("JOY, there", bay.shoreOf(0, 5), 1);
        due.is("hours(3)", bay.hours(3), 10);
        due.is("JOY, 3 hours on", bay.shoreOf(0, 5), 4);
        due.is("HOUR", bay.count(1), 16);
        due.is("hours(1) without SHORES", new TowardTheLoudest().hours(1), 15);
    }

    private void driftsByPaceNoFarther() {
        TowardTheLoudest bay = Due.told("s0527;v5;");
        due.is("hours(1)", bay.hours(1), 20);
        due.is("hours(1)", bay.hours(1), 25);
        due.is("hours(1), 2 PLACES to go", bay.hours(1), 27);
        TowardTheLoudest other = Due.told("s0503;v4;");
        due.is("hours(2)", other.hours(2), 7);
        due.is("hours(1), all 4", other.hours(1), 3);
    }

    private void driftsOnlyWhileItSounds() {
        TowardTheLoudest drum = Due.told("s1220;");
        due.is("at 8", drum.hours(1), 16);
        due.is("at 9, an odd hour", drum.hours(1), 16);
        due.is("at 10", drum.hours(1), 17);
        TowardTheLoudest quiet = Due.told("s0520;q0;");
        due.is("QUIET", quiet.hours(1), 15);
        TowardTheLoudest figure = Due.told("s0020;");
        due.is("FIGURE 0", figure.hours(1), 15);
    }

    private void powderGoes() {
        TowardTheLoudest bay = Due.told("s4820;s1700;s1610;q2;");
        due.is("at 8 to the CANNON", bay.hours(1), 16);
        due.is("POWDER of the CANNON", bay.shoreOf(0, 3), 4);
        due.is("POWDER of the DRUM that is not the LOUDEST", bay.shoreOf(1, 3), 8);
        due.is("at 9 to none", bay.hours(1), 16);
        due.is("POWDER of the DRUM that has no NOISE", bay.shoreOf(1, 3), 8);
        due.is("to 20, at 10, 12, 14, 16, 18 to the DRUM", bay.hours(10), 11);
        due.is("POWDER of the DRUM", bay.shoreOf(1, 3), 3);
        due.is("at 20 to the DRUM, as the CANNON lacks POWDER", bay.hours(1), 10);
        due.is("POWDER of the CANNON, that it keeps", bay.shoreOf(0, 3), 4);
        due.is("POWDER of the DRUM of FIGURE 6", bay.shoreOf(2, 3), 9);
        bay.hours(5);
        due.is("POWDER of the DRUM, 22 and 0 later", bay.shoreOf(1, 3), 0);
        due.is("PLACE", bay.isleOf(0), 8);
        due.is("with no POWDER for the DRUM", bay.hours(5), 8);
        TowardTheLoudest having = Due.told("s4815;");
        having.hours(1);
        due.is("POWDER of a CANNON that HAS THE ISLE", having.shoreOf(0, 3), 9);
        due.is("its JOY", having.shoreOf(0, 5), 1);
        TowardTheLoudest five = Due.told("s4820;p005;");
        five.hours(1);
        due.is("POWDER of a CANNON that had just enough", five.shoreOf(0, 3), 0);
    }

    private void ofSeveralLoudest() {
        due.is("the most NOISE", Due.told("s0414;s0530;").hours(1), 16);
        due.is("of several the nearest", Due.told("s0510;s0519;").hours(1), 16);
        due.is("of several the least", Due.told("s0520;s0510;").hours(1), 16);
        due.is("of several the least", Due.told("s0510;s0520;").hours(1), 14);
        due.is("of three the nearest", Due.told("s0500;s0530;s0517;").hours(1), 16);
    }

    private void joyEndsAt999() {
        TowardTheLoudest bay = Due.told("s0515;");
        for (int i = 0; i < 10; i++) {
            bay.hours(99);
        }
        due.is("JOY", bay.shoreOf(0, 5), 990);
        bay.hours(9);
        due.is("JOY", bay.shoreOf(0, 5), 999);
        bay.hours(1);
        due.is("JOY", bay.shoreOf(0, 5), 999);
        due.is("JOY in mind", bay.shoreBehind(0, 5, 0), 999);
        due.is("most(5, 1), though JOY stays", bay.most(5, 1), 5);
        due.is("lots(20, 1, 0), as JOY stays", bay.lots(20, 1, 0), 0);
    }

    private void hoursAndDays() {
        TowardTheLoudest bay = new TowardTheLoudest();
        bay.hours(15);
        due.is("HOUR", bay.count(1), 23);
        due.is("DAY", bay.count(2), 0);
        bay.hours(1);
        due.is("HOUR", bay.count(1), 0);
        due.is("DAY", bay.count(2), 1);
        due.is("hours(0)", bay.hours(0), -4);
        due.is("hours(-1)", bay.hours(-1), -4);
        due.is("hours(100)", bay.hours(100), -6);
        due.is("hours(2147483647)", bay.hours(2147483647), -6);
        for (int i = 0; i < 242; i++) {
            bay.hours(99);
        }
        due.is("DAY", bay.count(2), 999);
        due.is("HOUR, 23982 hours on from the first day's 0", bay.count(1), 6);
        due.is("hours(18)", bay.hours(18), -6);
        due.is("hours(0), on the last day", bay.hours(0), -4);
        due.is("hours(17)", bay.hours(17), 15);
        due.is("hours(1), in the last hour", bay.hours(1), -6);
        due.is("behind(99, 0), in mind", bay.behind(99, 0), 15);
        due.is("HOUR", bay.count(1), 23);
        due.is("DAY", bay.count(2), 999);
    }

    private void backWithEachChange() {
        TowardTheLoudest bay = Due.told("s4820;s0510;");
        due.is("back() of none", bay.back(), -3);
        bay.powders(0, 99);
        bay.hushes(1);
        bay.isle(0, 19);
        bay.isle(1, 2);
        bay.hours(40);
        due.is("PLACE", bay.isleOf(0), 20);
        due.is("JOY", bay.shoreOf(0, 5), 40);
        due.is("POWDER", bay.shoreOf(0, 3), 94);
        due.is("count(8)", bay.count(8), 5);
        due.is("back() of hours", bay.back(), 4);
        due.is("PLACE", bay.isleOf(0), 19);
        due.is("JOY", bay.shoreOf(0, 5), 0);
        due.is("POWDER", bay.shoreOf(0, 3), 99);
        due.is("HOUR", bay.count(1), 8);
        due.is("DAY", bay.count(2), 0);
        due.is("back() of PACE", bay.back(), 3);
        due.is("PACE", bay.isleOf(1), 1);
        due.is("back() of PLACE", bay.back(), 2);
        due.is("PLACE", bay.isleOf(0), 15);
        due.is("back() of QUIET", bay.back(), 1);
        due.is("count(3)", bay.count(3), 0);
        due.is("back() of POWDER", bay.back(), 0);
        due.is("POWDER", bay.shoreOf(0, 3), 9);
        due.is("back() of none", bay.back(), -3);
        due.is("count(13)", bay.count(13), 2);
    }

    private void backEightAtMost() {
        TowardTheLoudest bay = Due.told("s0010;");
        for (int place = 1; place <= 11; place++) {
            bay.isle(0, place);
        }
        due.is("count(8)", bay.count(8), 8);
        bay.isle(0, 99);
        bay.hours(0);
        bay.hushes(7);
        bay.powders(0, 100);
        due.is("count(8), behind refused ones", bay.count(8), 8);
        for (int place = 10; place >= 3; place--) {
            due.is("back()", bay.back(), place - 3);
            due.is("PLACE", bay.isleOf(0), place);
        }
        due.is("back(), the ninth", bay.back(), -3);
        due.is("PLACE", bay.isleOf(0), 3);
        bay.isle(0, 3);
        due.is("count(8), as all stays", bay.count(8), 1);
        bay.hours(1);
        due.is("count(8)", bay.count(8), 2);
        due.is("back()", bay.back(), 1);
        bay.isle(0, 4);
        bay.isle(0, 5);
        due.is("back()", bay.back(), 2);
        due.is("back()", bay.back(), 1);
        due.is("back()", bay.back(), 0);
        due.is("PLACE", bay.isleOf(0), 3);
    }
}
