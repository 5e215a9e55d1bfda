/** Promises 2 and 3. */
public final class LettersTest {
    private final Due due = new Due("LettersTest");

    public static void main(String[] args) {
        LettersTest test = new LettersTest();
        test.feeds();
        test.eachStatement();
        test.faultsOfTheFirstKind();
        test.faultsOfTheSecondKind();
        test.allOrNothing();
        test.whatCanBeTakenBack();
        test.dayAbove999();
        test.due.end();
    }

    private void tells(String text, int want) {
        due.is("bay() of \"" + text + "\"", Due.tell(new TowardTheLoudest(), text), want);
    }

    private void feeds() {
        TowardTheLoudest bay = new TowardTheLoudest();
        due.is("feed(0)", bay.feed(0), 1);
        due.is("feed(255)", bay.feed(255), 2);
        due.is("feed(-1)", bay.feed(-1), -4);
        due.is("feed(256)", bay.feed(256), -6);
        due.is("count(6)", bay.count(6), 2);
        for (int i = 3; i <= 96; i++) {
            due.is("feed('h')", bay.feed('h'), i);
        }
        due.is("feed('h'), the 97th", bay.feed('h'), -6);
        due.is("feed(-1), full", bay.feed(-1), -4);
        due.is("count(6), full", bay.count(6), 96);
        due.is("count(14)", bay.count(14), 2);
        due.is("count(16)", bay.count(16), 2);
        due.is("bay() of a wrong first letter", bay.bay(), -1000);
        due.is("count(6), behind a fault", bay.count(6), 0);
        due.is("feed('h'), anew", bay.feed('h'), 1);
    }

    private void eachStatement() {
        TowardTheLoudest bay = new TowardTheLoudest();
        due.is("bay(), six statements", Due.tell(bay, "s3728;p045;q0;i07;v4;h99;"), 6);
        due.is("KIND", bay.shoreOf(0, 0), 3);
        due.is("FIGURE", bay.shoreOf(0, 1), 7);
        due.is("PLACE", bay.shoreOf(0, 2), 28);
        due.is("POWDER, as it is QUIET", bay.shoreOf(0, 3), 45);
        due.is("QUIET", bay.shoreOf(0, 4), 1);
        due.is("PLACE of THE ISLE", bay.isleOf(0), 7);
        due.is("PACE", bay.isleOf(1), 4);
        due.is("HOUR, 8 and 99", bay.count(1), 11);
        due.is("DAY", bay.count(2), 4);
        due.is("bay(), not QUIET any more", Due.tell(bay, "q0;"), 1);
        due.is("QUIET, told again", bay.shoreOf(0, 4), 0);
        due.is("bay(), an hour", Due.tell(bay, "h01;"), 1);
        due.is("HOUR", bay.count(1), 12);
        due.is("bay(), the edges", Due.tell(bay, "s5930;p000;p199;i00;i30;v1;v5;s0000;"), 8);
        due.is("PLACE of the third SHORE", bay.shoreOf(2, 2), 0);
        due.is("POWDER of the third SHORE, at first", bay.shoreOf(2, 3), 9);
        due.is("QUIET of the third SHORE, at first", bay.shoreOf(2, 4), 0);
    }

    private void faultsOfTheFirstKind() {
        tells("", -1000);
        tells(";", -1000);
        tells("x", -1000);
        tells("S0500;", -1000);
        tells("s", -1001);
        tells("s;", -1001);
        tells("s0500", -1005);
        tells("s05000;", -1005);
        tells("s05;", -1003);
        tells("p00;", -1003);
        tells("p0000;", -1004);
        tells("q00;", -1002);
        tells("q", -1001);
        tells("i1;", -1002);
        tells("i155;", -1003);
        tells("v11;", -1002);
        tells("v/;", -1001);
        tells("v:;", -1001);
        tells("h1;", -1002);
        tells("h011;", -1003);
        tells("h01;;", -1004);
        tells("h01; ", -1004);
        tells("h01;h", -1005);
        tells("q9;i31;x", -1007);
        StringBuilder full = new StringBuilder();
        for (int i = 0; i < 31; i++) {
            full.append("v1;");
        }
        tells(full + "v1;", 32);
        tells(full + "i15", -1096);
        tells(full + "i1;", -1095);
    }

    private void faultsOfTheSecondKind() {
        tells("s5930;", 1);
        tells("s6930;", -2000);
        tells("s9930;", -2000);
        tells("s5931;", -2000);
        tells("v1;s5930;s0030;", -2009);
        tells("p000;", -2000);
        tells("s0000;p199;", -2006);
        tells("s0000;q1;", -2006);
        tells("s0000;q0;q1;q0;", -2009);
        tells("i30;i31;", -2004);
        tells("i99;", -2000);
        tells("v0;", -2000);
        tells("v5;v6;", -2003);
        tells("h00;", -2000);
        tells("s0000;s0001;s0002;s0003;s0004;s0005;s0006;", 7);
        tells("s0000;s0001;s0002;s0003;s0004;s0005;s0006;s0007;", -2042);
    }

    private void allOrNothing() {
        TowardTheLoudest bay = new TowardTheLoudest();
        due.is("bay() with a fault at its end", Due.tell(bay, "s0520;i03;v3;h09;q0;p077;q1;"), -2025);
        due.is("SHORES", bay.count(0), 0);
        due.is("HOUR", bay.count(1), 8);
        due.is("PLACE of THE ISLE", bay.isleOf(0), 15);
        due.is("PACE", bay.isleOf(1), 1);
        for (int what = 11; what <= 16; what++) {
            due.is("count(" + what + "), as no FAULT is counted", bay.count(what), 0);
        }
    }

    private void whatCanBeTakenBack() {
        TowardTheLoudest bay = Due.told("s0520;");
        bay.hushes(0);
        bay.isle(0, 3);
        due.is("bay() with a fault", Due.tell(bay, "v1;v9;"), -2003);
        due.is("count(8), behind a fault", bay.count(8), 2);
        due.is("bay() without", Due.tell(bay, "v1;"), 1);
        due.is("count(8), behind a bay", bay.count(8), 0);
        due.is("back()", bay.back(), -3);
        due.is("PLACE of THE ISLE", bay.isleOf(0), 3);
    }

    private void dayAbove999() {
        TowardTheLoudest bay = new TowardTheLoudest();
        for (int i = 0; i < 242; i++) {
            bay.hours(99);
        }
        due.is("DAY, 23966 hours on from the first", bay.count(2), 998);
        due.is("bay(), an hour too many", Due.tell(bay, "h33;h01;"), -2004);
        due.is("bay(), to the last hour", Due.tell(bay, "h33;"), 1);
        due.is("DAY", bay.count(2), 999);
        due.is("HOUR", bay.count(1), 23);
        due.is("bay(), an hour more", Due.tell(bay, "h01;"), -2000);
    }
}
