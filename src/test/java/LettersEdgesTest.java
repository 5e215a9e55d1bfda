/** "Terms", of a BAY told in letters, word by word. */
public final class LettersEdgesTest {
    private static final String EACH = "s0500;p012;q0;i15;v1;h01;";

    private final Due due = new Due("LettersEdgesTest");

    public static void main(String[] args) {
        LettersEdgesTest test = new LettersEdgesTest();
        test.ninetySixLetters();
        test.eachWithItsEnd();
        test.shoreMore();
        test.powder();
        test.quiet();
        test.isle();
        test.pace();
        test.hours();
        test.atLeastOne();
        test.whereNoneCanGoOn();
        test.whereSomethingLacks();
        test.theFirstStatement();
        test.notAsItMustBe();
        test.allOrNothing();
        test.due.end();
    }

    private void tells(String text, int want) {
        due.is("bay() of \"" + text + "\"", Due.tell(new TowardTheLoudest(), text), want);
    }

    private void ninetySixLetters() {
        due.says("A BAY is told in letters, one by one (96 at most):");
        TowardTheLoudest bay = new TowardTheLoudest();
        String text = "v1;".repeat(31) + "v5;";
        for (int at = 0; at < 96; at++) {
            due.is("letter " + at, bay.feed(text.charAt(at)), at + 1);
        }
        due.is("the 97th", bay.feed('v'), -6);
        due.is("the 97th, again", bay.feed(0), -6);
        due.is("count(6)", bay.count(6), 96);
        due.is("bay()", bay.bay(), 32);
        due.is("PACE, as the last one told it", bay.isleOf(1), 5);
        due.is("count(6)", bay.count(6), 0);
        due.is("a letter, as there is room again", bay.feed('v'), 1);
    }

    private void eachWithItsEnd() {
        due.says("STATEMENTS, each with \";\" behind:");
        tells("v1;v2;v3;", 3);
        tells("v1;v2;v3", -1008);
        tells("v1v2;", -1002);
        tells("v1;;v2;", -1003);
        tells(";v1;", -1000);
        tells("v1; v2;", -1003);
        tells("v1,", -1002);
    }

    private static String two(int number) {
        return String.format("%02d", number);
    }

    private void shoreMore() {
        due.says("\"s\" KIND, FIGURE (a digit each), PLACE (2 digits): a SHORE more;");
        for (int digit = 0; digit <= 9; digit++) {
            tells("s" + digit + "500;", digit <= 5 ? 1 : -2000);
            tells("s0" + digit + "00;", 1);
            due.is("FIGURE of \"s0" + digit + "00;\"", Due.told("s0" + digit + "00;").shoreOf(0, 1), digit);
        }
        for (int place = 0; place <= 99; place++) {
            tells("s05" + two(place) + ";", place <= 30 ? 1 : -2000);
        }
        TowardTheLoudest bay = Due.told("s5930;s0000;");
        int[][] want = {{5, 9, 30, 9, 0, 0}, {0, 0, 0, 9, 0, 0}};
        for (int shore = 0; shore < 2; shore++) {
            for (int what = 0; what < 6; what++) {
                due.is("shoreOf(" + shore + ", " + what + ")", bay.shoreOf(shore, what), want[shore][what]);
            }
        }
        tells("s050;", -1004);
        tells("s05000;", -1005);
    }

    private void powder() {
        due.says("\"p\" a SHORE (a digit), POWDER (2 digits);");
        for (int v = 0; v <= 99; v++) {
            TowardTheLoudest bay = Due.told("s0500;s0501;p1" + two(v) + ";");
            due.is("POWDER of \"p1" + two(v) + ";\"", bay.shoreOf(1, 3), v);
            due.is("POWDER of the other", bay.shoreOf(0, 3), 9);
        }
        for (int digit = 0; digit <= 9; digit++) {
            tells("s0500;s0501;p" + digit + "50;", digit <= 1 ? 3 : -2012);
        }
        tells("s0500;p05;", -1009);
        tells("s0500;p0500;", -1010);
    }

    private void quiet() {
        due.says("\"q\" a SHORE (a digit): QUIET, or, told again, not;");
        for (int digit = 0; digit <= 9; digit++) {
            tells("s0500;s0501;q" + digit + ";", digit <= 1 ? 3 : -2012);
        }
        TowardTheLoudest bay = Due.told("s0500;s0501;q1;");
        due.is("QUIET ones", bay.count(3), 2);
        due.is("QUIET ones, told again in another text", Due.told("s0500;s0501;q1;q0;q1;").count(3), 1);
        due.is("bay(), told again", Due.tell(bay, "q1;"), 1);
        due.is("QUIET ones", bay.count(3), 0);
        due.is("bay(), a third time", Due.tell(bay, "q1;"), 1);
        due.is("QUIET ones", bay.count(3), 2);
        tells("s0500;q;", -1007);
        tells("s0500;q00;", -1008);
    }

    private void isle() {
        due.says("\"i\" PLACE (2 digits) of THE ISLE;");
        for (int place = 0; place <= 99; place++) {
            TowardTheLoudest bay = new TowardTheLoudest();
            due.is("bay() of \"i" + two(place) + ";\"", Due.tell(bay, "i" + two(place) + ";"), place <= 30 ? 1 : -2000);
            due.is("PLACE of THE ISLE", bay.isleOf(0), place <= 30 ? place : 15);
        }
        tells("i5;", -1002);
        tells("i005;", -1003);
    }

    private void pace() {
        due.says("\"v\" PACE (a digit);");
        for (int pace = 0; pace <= 9; pace++) {
            TowardTheLoudest bay = Due.told("v2;");
            boolean may = pace >= 1 && pace <= 5;
            due.is("bay() of \"v" + pace + ";\"", Due.tell(bay, "v" + pace + ";"), may ? 1 : -2000);
            due.is("PACE", bay.isleOf(1), may ? pace : 2);
        }
        tells("v;", -1001);
        tells("v01;", -1002);
    }

    private void hours() {
        due.says("\"h\" hours (2 digits, 1 .. 99): so many go by.");
        for (int n = 0; n <= 99; n++) {
            TowardTheLoudest bay = Due.told("s0515;");
            due.is("bay() of \"h" + two(n) + ";\"", Due.tell(bay, "h" + two(n) + ";"), n == 0 ? -2000 : 1);
            due.is("HOUR", bay.count(1), (8 + n) % 24);
            due.is("DAY", bay.count(2), (8 + n) / 24);
            due.is("JOY", bay.shoreOf(0, 5), n);
        }
        tells("h1;", -1002);
        tells("h001;", -1003);
    }

    private void atLeastOne() {
        due.says("At least one STATEMENT.");
        tells("", -1000);
        tells("v1;", 1);
        TowardTheLoudest bay = Due.told("v1;");
        due.is("bay(), as the letters are no more", bay.bay(), -1000);
    }

    /** Each sign at each place of a text that tells one STATEMENT of each kind. */
    private void whereNoneCanGoOn() {
        due.says("FAULT: kind 1 the place of the first letter with which no BAY can go on");
        String shape = "s....;p...;q.;i..;v.;h..;";
        for (int at = 0; at < EACH.length(); at++) {
            for (char sign = 0; sign <= 255; sign++) {
                boolean digit = sign >= '0' && sign <= '9';
                boolean begins = Character.isLowerCase(shape.charAt(at)) && "spqivh".indexOf(sign) >= 0;
                boolean goesOn = begins || (shape.charAt(at) == '.' ? digit : sign == EACH.charAt(at));
                if (!goesOn) {
                    tells(EACH.substring(0, at) + sign + EACH.substring(at + 1), -1000 - at);
                }
            }
        }
        // Nothing behind it matters, nor whether what stands ahead is as it must be.
        tells("xx", -1000);
        tells("h00;p999;x", -1009);
        tells("v9:", -1002);
        tells("i99;q9;vv", -1008);
    }

    private void whereSomethingLacks() {
        due.says("(the end, if something lacks): -1000 less the place;");
        for (int length = 0; length <= EACH.length(); length++) {
            boolean whole = length > 0 && EACH.charAt(length - 1) == ';';
            if (!whole) {
                tells(EACH.substring(0, length), -1000 - length);
            }
        }
        String most = "v1;".repeat(31);
        tells(most + "s00", -1096);
        tells(most + "i15", -1096);
        tells(most + "v1", -1095);
        tells(most + "v", -1094);
        tells(most, 31);
    }

    private void theFirstStatement() {
        due.says("else kind 2 the place of the first letter of the first STATEMENT that, behind all ahead of it "
            + "in the text, is not as it must be");
        tells("i31;v6;h00;", -2000);
        tells("i30;v6;h00;", -2004);
        tells("i30;v5;h00;", -2007);
        tells("i30;v5;h01;", 3);
        // What stands ahead makes it so, or keeps it from it.
        tells("p099;s0500;", -2000);
        tells("s0500;p099;", 2);
        tells("q0;s0500;", -2000);
        tells("s0500;p199;s0501;", -2006);
        tells("s0500;s0501;p199;", 3);
        tells("s0500;s0500;", -2006);
        // What was there before is ahead, too.
        TowardTheLoudest bay = Due.told("s0500;");
        due.is("bay() of a SHORE of before", Due.tell(bay, "p001;q0;"), 2);
        due.is("bay() of a PLACE of before", Due.tell(bay, "v2;s0500;"), -2003);
        due.is("bay() of a SHORE more", Due.tell(bay, "p101;"), -2000);
        due.is("bay() of a SHORE more", Due.tell(bay, "s0501;p101;"), 2);
        tells("v1;".repeat(31) + "v0;", -2093);
    }

    private void notAsItMustBe() {
        due.says("(a number out of range, no such one, a PLACE with a SHORE, DAY above 999, no room): "
            + "-2000 less the place.");
        tells("v1;s6500;", -2003);
        tells("v1;s0531;", -2003);
        tells("v1;i31;", -2003);
        tells("v1;v0;", -2003);
        tells("v1;v6;", -2003);
        tells("v1;h00;", -2003);
        tells("v1;p000;", -2003);
        tells("v1;q0;", -2003);
        tells("v1;s0530;s1130;", -2009);
        tells("s0500;s0501;s0502;s0503;s0504;s0505;s0506;q6;p699;", 9);
        tells("s0500;s0501;s0502;s0503;s0504;s0505;s0506;q7;", -2042);
        tells("s0500;s0501;s0502;s0503;s0504;s0505;s0506;s0507;", -2042);
        // From DAY 998, HOUR 14: 33 hours are left.
        TowardTheLoudest bay = new TowardTheLoudest();
        for (int i = 0; i < 242; i++) {
            bay.hours(99);
        }
        due.is("bay() to DAY 1000 at once", Due.tell(bay, "v1;h34;"), -2003);
        due.is("bay() to DAY 1000 by and by", Due.tell(bay, "h10;h23;v1;h01;"), -2011);
        due.is("bay() to the last hour", Due.tell(bay, "h10;h23;v1;"), 3);
        due.is("DAY", bay.count(2), 999);
        due.is("HOUR", bay.count(1), 23);
        due.is("bay() to DAY 1000", Due.tell(bay, "h01;"), -2000);
        due.is("bay() without hours", Due.tell(bay, "v2;"), 1);
    }

    private void allOrNothing() {
        due.says("Without FAULT all of it comes, with one nothing.");
        String text = "s0520;s4910;p199;q0;i03;v3;h02;";
        TowardTheLoudest bay = new TowardTheLoudest();
        for (String fault : new String[] {"v0;", "p200;", "x", "v", "s0520;"}) {
            due.holds("there is a FAULT", Due.tell(bay, text + fault) < 0);
            int[] counts = {0, 8, 0, 0, 0, 0, 0, 0, 0};
            for (int what = 0; what < counts.length; what++) {
                due.is("count(" + what + ")", bay.count(what), counts[what]);
            }
            due.is("PLACE of THE ISLE", bay.isleOf(0), 15);
            due.is("PACE", bay.isleOf(1), 1);
        }
        due.is("bay()", Due.tell(bay, text), 7);
        // The CANNON draws it from 3 at 9, by 3 PLACES.
        int[] counts = {2, 10, 0, 1, 0, 9 + 94, 0, 0, 0};
        for (int what = 0; what < counts.length; what++) {
            due.is("count(" + what + ")", bay.count(what), counts[what]);
        }
        due.is("PLACE of THE ISLE", bay.isleOf(0), 6);
        due.is("PACE", bay.isleOf(1), 3);
    }
}
