/** "Terms", word by word: the least and the greatest of each number, and how an HOUR goes by. */
public final class TermsEdgesTest {
    private final Due due = new Due("TermsEdgesTest");

    public static void main(String[] args) {
        TermsEdgesTest test = new TermsEdgesTest();
        test.places();
        test.shores();
        test.kinds();
        test.figures();
        test.noTwoInOnePlace();
        test.powder();
        test.quiet();
        test.joy();
        test.isle();
        test.hour();
        test.day();
        test.loudShore();
        test.loudDrum();
        test.loudFalls();
        test.loudChoir();
        test.loudCannon();
        test.loudBreath();
        test.costs();
        test.noiseOfQuietOnes();
        test.noiseWithLessPowder();
        test.noiseOfWhoHasTheIsle();
        test.loudestAboveNought();
        test.loudestOfSeveral();
        test.powderThatGoes();
        test.drift();
        test.hourBehind23();
        test.joyMore();
        test.due.end();
    }

    private void places() {
        due.says("PLACES 0 .. 30 along the bay.");
        TowardTheLoudest bay = new TowardTheLoudest();
        due.is("shore(0, 5, -1)", bay.shore(0, 5, -1), -1);
        due.is("shore(0, 5, 31)", bay.shore(0, 5, 31), -1);
        due.is("shore(0, 5, 0)", bay.shore(0, 5, 0), 0);
        due.is("shore(0, 5, 30)", bay.shore(0, 5, 30), 1);
        due.is("isle(0, -1)", bay.isle(0, -1), -4);
        due.is("isle(0, 31)", bay.isle(0, 31), -6);
        due.is("isle(0, 0)", bay.isle(0, 0), 15);
        due.is("isle(0, 30)", bay.isle(0, 30), 0);
        due.is("drifted to the one end", Due.told("s0500;i02;").hours(3), 0);
        due.is("drifted to the other end", Due.told("s0530;i28;").hours(3), 30);
    }

    private void shores() {
        due.says("SHORES 0 .. 6 as they come (7 at most),");
        TowardTheLoudest bay = new TowardTheLoudest();
        for (int shore = 0; shore < 7; shore++) {
            due.is("shoreOf, before it comes", bay.shoreOf(shore, 2), -1);
            due.is("shore(0, 5, " + (30 - shore) + ")", bay.shore(0, 5, 30 - shore), shore);
            due.is("count(0)", bay.count(0), shore + 1);
        }
        due.is("the eighth", bay.shore(0, 5, 0), -6);
        due.is("count(0)", bay.count(0), 7);
        for (int shore = 0; shore < 7; shore++) {
            due.is("shoreOf(" + shore + ", 2)", bay.shoreOf(shore, 2), 30 - shore);
        }
        due.is("shoreOf(7, 2)", bay.shoreOf(7, 2), -1);
        due.is("the eighth in letters", Due.tell(bay, "s0500;"), -2000);
    }

    private void kinds() {
        due.says("of KINDS: 0 SHORE; 1 DRUM under SHORE; 2 FALLS under SHORE; 3 CHOIR under DRUM; "
            + "4 CANNON under SHORE; 5 BREATH under FALLS:");
        TowardTheLoudest bay = new TowardTheLoudest();
        due.is("shore(-1, 7, 0)", bay.shore(-1, 7, 0), -2);
        due.is("shore(6, 7, 0)", bay.shore(6, 7, 0), -2);
        int[] loudAt10 = {7, 10, 4, 20, 0, 1};
        int[] loudAt19 = {7, 0, 4, 0, 30, 1};
        for (int kind = 0; kind < 6; kind++) {
            due.is("shore(" + kind + ", 7, " + kind + ")", bay.shore(kind, 7, kind), kind);
            due.is("KIND", bay.shoreOf(kind, 0), kind);
            due.is("NOISE at 10 of KIND " + kind, bay.noise(kind, 10), loudAt10[kind]);
            due.is("NOISE at 19 of KIND " + kind, bay.noise(kind, 19), loudAt19[kind]);
        }
    }

    private void figures() {
        due.says("a FIGURE (0 .. 9),");
        TowardTheLoudest bay = new TowardTheLoudest();
        due.is("shore(0, -1, 0)", bay.shore(0, -1, 0), -4);
        due.is("shore(0, 10, 0)", bay.shore(0, 10, 0), -6);
        due.is("shore(0, 0, 0)", bay.shore(0, 0, 0), 0);
        due.is("shore(0, 9, 1)", bay.shore(0, 9, 1), 1);
        due.is("FIGURE, the least", bay.shoreOf(0, 1), 0);
        due.is("FIGURE, the greatest", bay.shoreOf(1, 1), 9);
    }

    private void noTwoInOnePlace() {
        due.says("a PLACE (no two in one),");
        TowardTheLoudest bay = Due.told("s0500;s0530;");
        due.is("shore(0, 5, 0), once more", bay.shore(0, 5, 0), -3);
        due.is("shore(1, 1, 30), once more", bay.shore(1, 1, 30), -3);
        due.is("shore(0, 5, 1), beside it", bay.shore(0, 5, 1), 2);
        due.is("shore(0, 5, 1), once more", bay.shore(0, 5, 1), -3);
        due.is("shore(0, 5, 15), where THE ISLE alone is", bay.shore(0, 5, 15), 3);
        due.is("count(0)", bay.count(0), 4);
    }

    private void powder() {
        due.says("POWDER (0 .. 99; 9 at first),");
        TowardTheLoudest bay = Due.told("s4500;");
        due.is("POWDER, at first", bay.shoreOf(0, 3), 9);
        due.is("powders(0, -1)", bay.powders(0, -1), -4);
        due.is("powders(0, 100)", bay.powders(0, 100), -6);
        due.is("powders(0, 0)", bay.powders(0, 0), 9);
        due.is("powders(0, 99)", bay.powders(0, 99), 0);
        due.is("POWDER, the greatest", bay.shoreOf(0, 3), 99);
        TowardTheLoudest drum = Due.told("s1730;h99;");
        due.is("POWDER, no less than the least", drum.shoreOf(0, 3), 0);
    }

    private void quiet() {
        due.says("QUIET by treaty or not (not at first),");
        TowardTheLoudest bay = Due.told("s0500;s0501;s0502;s0503;s0504;s0505;s0506;");
        due.is("count(3), at first", bay.count(3), 0);
        for (int shore = 0; shore < 7; shore++) {
            due.is("shoreOf(" + shore + ", 4), at first", bay.shoreOf(shore, 4), 0);
            due.is("hushes(" + shore + ")", bay.hushes(shore), 1);
            due.is("shoreOf(" + shore + ", 4)", bay.shoreOf(shore, 4), 1);
        }
        due.is("count(3), all", bay.count(3), 127);
    }

    private void joy() {
        due.says("JOY (hours it had the isle, 0 .. 999; 0 at first).");
        TowardTheLoudest bay = Due.told("s0515;s0930;q1;");
        due.is("JOY, at first, even of who HAS THE ISLE", bay.shoreOf(0, 5), 0);
        for (int i = 0; i < 10; i++) {
            bay.hours(99);
        }
        due.is("JOY of 990 hours", bay.shoreOf(0, 5), 990);
        bay.hours(8);
        due.is("JOY of 998 hours", bay.shoreOf(0, 5), 998);
        bay.hours(1);
        due.is("JOY of 999 hours", bay.shoreOf(0, 5), 999);
        bay.hours(1);
        due.is("JOY of 1000 hours", bay.shoreOf(0, 5), 999);
        bay.hours(99);
        due.is("JOY of 1099 hours", bay.shoreOf(0, 5), 999);
        due.is("JOY of the other", bay.shoreOf(1, 5), 0);
        due.is("all JOY", bay.count(4), 999);
    }

    private void isle() {
        due.says("THE ISLE: a PLACE (15 at first), PACE (1 .. 5; 1 at first).");
        TowardTheLoudest bay = new TowardTheLoudest();
        due.is("PLACE, at first", bay.isleOf(0), 15);
        due.is("PACE, at first", bay.isleOf(1), 1);
        due.is("isle(1, 0)", bay.isle(1, 0), -4);
        due.is("isle(1, 6)", bay.isle(1, 6), -6);
        due.is("isle(1, 5)", bay.isle(1, 5), 1);
        due.is("PACE, the greatest", bay.isleOf(1), 5);
        due.is("isle(1, 1)", bay.isle(1, 1), 5);
        due.is("PACE, the least", bay.isleOf(1), 1);
    }

    private void hour() {
        due.says("HOUR (0 .. 23; 8 at first),");
        TowardTheLoudest bay = new TowardTheLoudest();
        for (int gone = 0; gone <= 48; gone++) {
            due.is("HOUR, " + gone + " hours on", bay.count(1), (8 + gone) % 24);
            bay.hours(1);
        }
    }

    /** DAY 998, HOUR 14. */
    private static TowardTheLoudest nearTheLastDay(String text) {
        TowardTheLoudest bay = new TowardTheLoudest();
        for (int i = 0; i < 242; i++) {
            bay.hours(99);
        }
        Due.tell(bay, text);
        return bay;
    }

    private void day() {
        due.says("DAY (0 .. 999; 0 at first).");
        due.is("DAY, at first", new TowardTheLoudest().count(2), 0);
        TowardTheLoudest bay = nearTheLastDay("s0510;");
        due.is("DAY", bay.count(2), 998);
        due.is("hours(34), to DAY 1000", bay.hours(34), -6);
        due.is("hours(10), to the last day", bay.hours(10), 10);
        due.is("DAY, the greatest", bay.count(2), 999);
        due.is("HOUR", bay.count(1), 0);
        due.is("hours(24), to DAY 1000", bay.hours(24), -6);
        due.is("HOUR, as before", bay.count(1), 0);
        due.is("JOY, as before", bay.shoreOf(0, 5), 6);
        due.is("hours(23), to the last hour", bay.hours(23), 10);
        due.is("HOUR, the last", bay.count(1), 23);
        due.is("hours(1), to DAY 1000", bay.hours(1), -6);
        due.is("\"h01;\", to DAY 1000", Due.tell(bay, "h01;"), -2000);
        bay.isle(0, 20);
        due.is("behind(10, 0), in mind without an end", bay.behind(10, 0), 10);
        due.is("DAY, the greatest", bay.count(2), 999);
        due.is("count(16)", bay.count(16), 3);
    }

    private static TowardTheLoudest one(int kind, int figure) {
        TowardTheLoudest bay = new TowardTheLoudest();
        bay.shore(kind, figure, 0);
        return bay;
    }

    /** NOISE at each hour: what it is in general, and at other hours, bits, else. */
    private void sounds(int kind, int figure, int often, int otherHours, int other) {
        TowardTheLoudest bay = one(kind, figure);
        for (int hour = 0; hour < 24; hour++) {
            due.is("NOISE at " + hour + " of KIND " + kind + ", FIGURE " + figure, bay.noise(0, hour),
                (otherHours >> hour & 1) == 1 ? other : often);
        }
    }

    private void loudShore() {
        due.says("LOUD (at an hour): SHORE FIGURE;");
        for (int figure = 0; figure <= 9; figure++) {
            sounds(0, figure, figure, 0, 0);
        }
    }

    private void loudDrum() {
        due.says("DRUM 3 more at even hours, else 0;");
        for (int figure = 0; figure <= 9; figure++) {
            sounds(1, figure, figure + 3, 0xaaaaaa, 0);
        }
    }

    private void loudFalls() {
        due.says("FALLS 4;");
        for (int figure = 0; figure <= 9; figure++) {
            sounds(2, figure, 4, 0, 0);
        }
    }

    private void loudChoir() {
        due.says("CHOIR twice a DRUM's at hours 9, 10, 11, 18, 19, 20, else as a DRUM;");
        for (int figure = 0; figure <= 9; figure++) {
            TowardTheLoudest bay = one(3, figure);
            for (int hour = 0; hour < 24; hour++) {
                boolean twice = hour >= 9 && hour <= 11 || hour >= 18 && hour <= 20;
                int drum = one(1, figure).noise(0, hour);
                due.is("NOISE at " + hour + " of a CHOIR, FIGURE " + figure, bay.noise(0, hour),
                    twice ? drum + drum : drum);
            }
        }
        TowardTheLoudest nine = one(3, 9);
        int[] due9 = {12, 0, 24, 0, 12, 12, 0, 24, 0, 24, 0, 12};
        int[] hours = {8, 9, 10, 11, 12, 16, 17, 18, 19, 20, 21, 22};
        for (int i = 0; i < hours.length; i++) {
            due.is("NOISE at " + hours[i] + " of a CHOIR, FIGURE 9", nine.noise(0, hours[i]), due9[i]);
        }
    }

    private void loudCannon() {
        due.says("CANNON 30 at the hour FIGURE and at the hour FIGURE plus 12, else 0;");
        for (int figure = 0; figure <= 9; figure++) {
            sounds(4, figure, 0, 1 << figure | 1 << figure + 12, 30);
        }
    }

    private void loudBreath() {
        due.says("BREATH 1.");
        for (int figure = 0; figure <= 9; figure++) {
            sounds(5, figure, 1, 0, 0);
        }
    }

    private void costs() {
        due.says("COSTS (POWDER to sound in an HOUR): SHORE 0; CANNON 5; DRUM 1, if FIGURE is 7 or more, else 0; "
            + "CHOIR as a DRUM; others as a SHORE.");
        for (int figure = 0; figure <= 9; figure++) {
            int drum = figure < 7 ? 0 : 1;
            int[] costs = {0, drum, 0, drum, 5, 0};
            for (int kind = 0; kind < 6; kind++) {
                due.is("COSTS of KIND " + kind + ", FIGURE " + figure, one(kind, figure).shoreOf(0, 6), costs[kind]);
            }
            // Behind 24 hours: 9 are enough for one time of 5 and for nine times of 1.
            int[] left = {9, 9 - 9 * drum, 9, 9 - 9 * drum, 4, 9};
            for (int kind = 0; kind < 6; kind++) {
                TowardTheLoudest bay = one(kind, figure);
                bay.shore(0, 0, 30);
                bay.isle(0, 30);
                bay.hours(24);
                due.is("POWDER a day on of KIND " + kind + ", FIGURE " + figure, bay.shoreOf(0, 3), left[kind]);
            }
        }
    }

    private static final int[] LOUD_AT_8 = {8, 11, 4, 11, 30, 1};

    private void noiseOfQuietOnes() {
        due.says("NOISE: LOUD, but 0, if it is QUIET,");
        for (int kind = 0; kind < 6; kind++) {
            TowardTheLoudest bay = one(kind, 8);
            due.is("NOISE at 8 of KIND " + kind, bay.noise(0, 8), LOUD_AT_8[kind]);
            bay.hushes(0);
            due.is("NOISE at 8 of KIND " + kind + ", QUIET", bay.noise(0, 8), 0);
            due.is("all NOISE", bay.loudest(8, 1), 0);
            bay.hushes(0);
            due.is("NOISE at 8 of KIND " + kind + ", not any more", bay.noise(0, 8), LOUD_AT_8[kind]);
        }
    }

    private void noiseWithLessPowder() {
        due.says("if its POWDER is less than it COSTS,");
        for (int kind = 0; kind < 6; kind++) {
            TowardTheLoudest bay = one(kind, 8);
            int costs = bay.shoreOf(0, 6);
            for (int v = 0; v <= 9; v++) {
                bay.powders(0, v);
                due.is("NOISE at 8 of KIND " + kind + ", POWDER " + v, bay.noise(0, 8),
                    v < costs ? 0 : LOUD_AT_8[kind]);
            }
        }
        TowardTheLoudest choir = one(3, 8);
        choir.powders(0, 1);
        due.is("NOISE at 10 of a CHOIR, that COSTS no more", choir.noise(0, 10), 22);
    }

    private void noiseOfWhoHasTheIsle() {
        due.says("or if it HAS THE ISLE (whose PLACE is its own).");
        for (int kind = 0; kind < 6; kind++) {
            TowardTheLoudest bay = new TowardTheLoudest();
            bay.shore(kind, 8, 15);
            due.is("NOISE at 8 of KIND " + kind + ", that HAS THE ISLE", bay.noise(0, 8), 0);
            due.is("shoreOf(0, 7)", bay.shoreOf(0, 7), 1);
            bay.isle(0, 14);
            due.is("NOISE at 8 of KIND " + kind + ", a PLACE off", bay.noise(0, 8), LOUD_AT_8[kind]);
            bay.isle(0, 16);
            due.is("NOISE at 8 of KIND " + kind + ", a PLACE off", bay.noise(0, 8), LOUD_AT_8[kind]);
            due.is("shoreOf(0, 7)", bay.shoreOf(0, 7), 0);
        }
    }

    private void driftsTo(String text, int n, int place) {
        due.is(text + " hours(" + n + ")", Due.told(text).hours(n), place);
    }

    private void loudestAboveNought() {
        due.says("An HOUR goes by: the LOUDEST is the SHORE of most NOISE above 0 at HOUR,");
        driftsTo("v1;", 1, 15);
        driftsTo("s0010;", 1, 15);
        driftsTo("s0010;s0120;", 1, 16);
        driftsTo("s0010;s5920;", 1, 16);
        driftsTo("s0414;s0530;", 1, 16);
        driftsTo("s0530;s0414;", 1, 16);
        driftsTo("s0514;s0630;s0500;", 1, 16);
        // A CANNON's hour is HOUR, not the one behind it.
        driftsTo("s4810;", 1, 14);
        driftsTo("s4910;", 1, 15);
        driftsTo("s4910;", 2, 14);
    }

    private void loudestOfSeveral() {
        due.says("of several the nearest to THE ISLE, of several the least;");
        driftsTo("s0510;s0519;", 1, 16);
        driftsTo("s0519;s0510;", 1, 16);
        driftsTo("s0511;s0520;", 1, 14);
        driftsTo("s0510;s0520;", 1, 14);
        driftsTo("s0520;s0510;", 1, 16);
        driftsTo("s0500;s0530;s0517;s0513;", 1, 16);
        driftsTo("s0530;s0500;s0513;s0517;", 1, 14);
        // FALLS and a SHORE of FIGURE 4, a DRUM and a SHORE are as loud.
        driftsTo("s2912;s0416;", 1, 16);
        driftsTo("s1210;s0520;", 1, 14);
        due.is("loudest(8, 0)", Due.told("s0500;s0530;s0517;s0513;").loudest(8, 0), 2);
    }

    private void powderIsThen(String text, int... powder) {
        TowardTheLoudest bay = Due.told(text);
        bay.hours(1);
        for (int shore = 0; shore < powder.length; shore++) {
            due.is(text + " POWDER of " + shore + " behind an hour", bay.shoreOf(shore, 3), powder[shore]);
        }
    }

    private void powderThatGoes() {
        due.says("each SHORE with NOISE above 0 has so much less POWDER as it COSTS;");
        powderIsThen("s4820;", 4);
        powderIsThen("s4820;p005;", 0);
        powderIsThen("s4820;p004;", 4);
        powderIsThen("s4820;p000;", 0);
        powderIsThen("s1720;p001;", 0);
        powderIsThen("s1720;p000;", 0);
        powderIsThen("s4810;s4820;s1700;s3730;s0501;s1602;", 4, 4, 8, 8, 9, 9);
        // Without NOISE: at another hour, QUIET, as it HAS THE ISLE.
        powderIsThen("s4920;s4721;", 9, 9);
        powderIsThen("h01;s1720;s3710;", 9, 9);
        powderIsThen("s4820;q0;s1710;q1;", 9, 9);
        powderIsThen("s4815;", 9);
        powderIsThen("s1715;", 9);
        // It had NOISE before THE ISLE came to it.
        powderIsThen("s4816;", 4);
        powderIsThen("s4816;s1715;", 4, 9);
        // A CHOIR twice as loud COSTS the same.
        powderIsThen("h02;s3700;", 8);
    }

    private void drift() {
        due.says("THE ISLE drifts PACE PLACES towards the PLACE of the LOUDEST (no farther; not without one);");
        for (int pace = 1; pace <= 5; pace++) {
            for (int far = 1; far <= 15; far++) {
                int way = Math.min(pace, far);
                driftsTo(String.format("v%d;s05%02d;", pace, 15 - far), 1, 15 - way);
                driftsTo(String.format("v%d;s05%02d;", pace, 15 + far), 1, 15 + way);
            }
            driftsTo("v" + pace + ";", 1, 15);
            driftsTo("v" + pace + ";s0510;q0;", 1, 15);
            driftsTo("v" + pace + ";s0515;", 1, 15);
        }
    }

    private void hourBehind23() {
        due.says("HOUR is 1 more (behind 23: 0, DAY 1 more);");
        TowardTheLoudest bay = Due.told("h14;");
        due.is("HOUR", bay.count(1), 22);
        bay.hours(1);
        due.is("HOUR", bay.count(1), 23);
        due.is("DAY", bay.count(2), 0);
        bay.hours(1);
        due.is("HOUR behind 23", bay.count(1), 0);
        due.is("DAY", bay.count(2), 1);
        bay.hours(24);
        due.is("HOUR, a day on", bay.count(1), 0);
        due.is("DAY", bay.count(2), 2);
        bay.hours(23);
        due.is("HOUR", bay.count(1), 23);
        due.is("DAY", bay.count(2), 2);
        due.is("\"h99;\"", Due.tell(bay, "h99;"), 1);
        due.is("HOUR, 99 hours on", bay.count(1), 2);
        due.is("DAY", bay.count(2), 7);
    }

    private void joyMore() {
        due.says("who HAS THE ISLE then has JOY 1 more (999 at most).");
        TowardTheLoudest bay = Due.told("s0517;s0915;");
        bay.hours(1);
        due.is("JOY of who had it before", bay.shoreOf(1, 5), 0);
        due.is("JOY, a PLACE off", bay.shoreOf(0, 5), 0);
        // From 16 back to the louder one, and off again.
        bay.hours(1);
        due.is("JOY of whom it comes to", bay.shoreOf(1, 5), 1);
        bay.hours(1);
        due.is("JOY, as it goes", bay.shoreOf(1, 5), 1);
        due.is("JOY of the other", bay.shoreOf(0, 5), 0);
        TowardTheLoudest quiet = Due.told("s0516;s0015;q0;q1;h99;");
        due.is("JOY of one that is QUIET", quiet.shoreOf(1, 5), 99);
        for (int i = 0; i < 10; i++) {
            quiet.hours(90);
        }
        due.is("JOY, the greatest", quiet.shoreOf(1, 5), 999);
        quiet.hours(1);
        due.is("JOY, no more than the greatest", quiet.shoreOf(1, 5), 999);
        due.is("shoreBehind(1, 99, 0), neither in mind", quiet.shoreBehind(1, 99, 0), 999);
    }
}
