/** Of ROWS, treaties and chance, word by word: WHICH to DRAWS. */
public final class ChanceEdgesTest {
    /** Seeds at the ends of what an int is, and some whose DRAWS take the sign's bit. */
    private static final int[] SEEDS = {0, 1, 2, -1, 5, 12345, 65535, 65536, -65536, 99999999, -99999999,
        Integer.MAX_VALUE, Integer.MIN_VALUE, Integer.MIN_VALUE + 1};

    private final Due due = new Due("ChanceEdgesTest");
    private int seed;

    public static void main(String[] args) {
        ChanceEdgesTest test = new ChanceEdgesTest();
        test.which();
        test.whichOfAllNumbers();
        test.treaty();
        test.thunder();
        test.thunderAtTheEnds();
        test.row();
        test.judged();
        test.lots();
        test.lotsByNumbers();
        test.lotsOfManyBays();
        test.draws();
        test.due.end();
    }

    private static TowardTheLoudest told(String text, int... row) {
        TowardTheLoudest bay = Due.told(text);
        for (int v : row) {
            bay.row(v);
        }
        return bay;
    }

    private void whichAre(String text, int kinds, int figures, int paces, int... row) {
        int[] bits = {kinds, figures, paces};
        TowardTheLoudest bay = told(text, row);
        for (int what = 0; what < 3; what++) {
            due.is(text + " which(0, " + what + ")", bay.which(0, what), bits[what]);
        }
        due.is("count(7), as the ROW stays", bay.count(7), row.length);
    }

    private void which() {
        due.says("WHICH: a ROW tells PLACES of THE ISLE behind 0, 1, .. hours: KINDS (bits) of a SHORE by which all of "
            + "it is so; FIGURES (bits 0 .. 9); PACES (bits 1 .. 5).");
        // By no ROW, and by the PLACE of now alone, all of them.
        whichAre("s0510;", 63, 1023, 62);
        whichAre("s0510;", 63, 1023, 62, 15);
        whichAre("s0510;", 0, 0, 0, 14);
        whichAre("s0510;", 0b101111, 1022, 1 << 1, 15, 14);
        whichAre("s0510;", 1 << 4, 1, 0, 15, 15);
        whichAre("s0510;v5;", 0b101111, 1022, 1 << 5, 15, 10);
        // A BREATH alone is less loud than 2 at 8 and at 9, as a CANNON of FIGURE 9 is not.
        whichAre("s0910;s0220;", 1 << 5, 0b11, 0, 15, 16, 17);
        // Of the first and the last bits: at 8 just a CANNON of FIGURE 8, at 9 just one of 9.
        whichAre("s4910;", 1 << 4, 1 << 9, 1 << 1, 15, 15, 14);
        // Whatever the first one is, the second draws the same way.
        whichAre("s4010;s0120;i05;h03;", 63, 1023, 1 << 1, 8, 9, 10);
        // The last of 12 numbers is looked at, too.
        int[] row = {15, 14, 13, 12, 11, 10, 9, 8, 7, 6, 5, 4};
        whichAre("s0500;", 0b100101, 1022, 1 << 1, row);
        row[11] = 5;
        whichAre("s0500;", 0, 0, 0, row);
    }

    private void whichOfAllNumbers() {
        for (int v = 0; v <= 99; v++) {
            due.is("which(0, 0) of the ROW 15, " + v, told("s0510;", 15, v).which(0, 0),
                v == 14 ? 0b101111 : v == 15 ? 0b010000 : 0);
            due.is("which(0, 2) of the ROW " + v, told("s0510;", v).which(0, 2), v == 15 ? 62 : 0);
        }
        due.is("KIND, as before", whichIn("s3510;v4;").shoreOf(0, 0), 3);
        due.is("FIGURE, as before", whichIn("s3510;v4;").shoreOf(0, 1), 5);
        due.is("PACE, as before", whichIn("s3510;v4;").isleOf(1), 4);
    }

    private static TowardTheLoudest whichIn(String text) {
        TowardTheLoudest bay = told(text, 15, 11);
        for (int what = 0; what < 3; what++) {
            bay.which(0, what);
        }
        return bay;
    }

    private void treatyIs(String text, int one, int other, int pair, int kept) {
        due.is(text + " treaty(" + one + ", " + other + ", 0)", Due.told(text).treaty(one, other, 0), pair);
        due.is(text + " treaty(" + one + ", " + other + ", 1)", Due.told(text).treaty(one, other, 1), kept);
    }

    private void treaty() {
        due.says("TREATY: two SHORES each are QUIET (0) or not (1) for 12 hours from now: each would have THE ISLE most "
            + "often behind these 1 .. 12 hours: the first pair (10 the first's and the other's) by which neither "
            + "HAS it more often by another choice alone; -9; KEPT: 1 if (0, 0) is such a pair, else 0.");
        // Neither can come to have it: more often is not as often.
        treatyIs("s0500;s0530;", 0, 1, 0, 1);
        treatyIs("s0500;s0530;i15;", 1, 0, 0, 1);
        // It is there behind 12 hours, or would be behind 13.
        treatyIs("s0503;s0530;", 0, 1, 10, 0);
        treatyIs("s0502;s0530;", 0, 1, 0, 1);
        treatyIs("s0500;s0527;", 0, 1, 1, 0);
        treatyIs("s0500;s0528;", 0, 1, 0, 1);
        treatyIs("s0503;s0530;", 1, 0, 1, 0);
        // Who HAS THE ISLE now is QUIET just if the other one's 12 hours are too few.
        treatyIs("s0515;s0502;", 0, 1, 0, 1);
        treatyIs("s0515;s0503;", 0, 1, 10, 0);
        treatyIs("s5310;s5411;i11;", 0, 1, 11, 0);
        treatyIs("s5310;s5411;i11;", 1, 0, 11, 0);
        // What is QUIET now does not matter, but with others it does.
        treatyIs("s0503;s0530;q0;q1;", 0, 1, 10, 0);
        treatyIs("s0503;s0530;s0916;", 0, 1, 0, 1);
        treatyIs("s0503;s0530;s0916;q2;", 0, 1, 10, 0);
        // They have it 1 and 2, 3 and 0, 5 and 0, 1 and 4 times: by each pair one would do otherwise.
        treatyIs("s2522;s4123;s4521;s1825;i12;v2;", 0, 1, -9, 0);
        treatyIs("s2522;s4123;s4521;s1825;i12;v2;", 1, 0, -9, 0);
        TowardTheLoudest bay = Due.told("s0503;s0530;q0;");
        due.is("treaty(1, 1, 0), one twice", bay.treaty(1, 1, 0), -1);
        bay.treaty(0, 1, 0);
        due.is("QUIET ones, as before", bay.count(3), 1);
        due.is("HOUR, as before", bay.count(1), 8);
    }

    private void thunderIs(String text, int n, int t, long above, long below) {
        String call = text + " thunder(0, " + n + ", " + t + ", ";
        due.is(call + "0)", Due.told(text).thunder(0, n, t, 0), above);
        due.is(call + "1)", Due.told(text).thunder(0, n, t, 1), below);
    }

    private void thunder() {
        due.says("THUNDER by chance: in each of n hours (0 .. 7), by itself, with odds 1 in t (2 .. 20) THE ISLE drifts "
            + "not towards the LOUDEST but PACE PLACES away from it");
        thunderIs("s0515;", 0, 2, 1, 1);
        thunderIs("s0514;", 0, 20, 0, 1);
        for (int t = 2; t <= 20; t++) {
            thunderIs("s0514;", 1, t, t - 1, t);
            // Away from the one is towards the other, by all of the PACE.
            thunderIs("s0014;s0516;", 1, t, 1, t);
            thunderIs("s0010;s0516;v5;", 1, t, 1, t);
            // Without a LOUDEST it stays.
            thunderIs("s0515;", 7, t, 1, 1);
            thunderIs("s0510;q0;", 7, t, 0, 1);
        }
        // Of 7 hours all have to be without: 6^7 in 7^7, 19^7 in 20^7; and 8 PLACES are too many.
        thunderIs("s0508;", 7, 7, 279936, 823543);
        thunderIs("s0508;", 7, 20, 893871739, 1280000000);
        thunderIs("s0508;", 7, 2, 1, 128);
        thunderIs("s0507;", 7, 2, 0, 1);
        // Behind these hours, not behind some of them: from 10 the one at 16 drives or draws it off.
        thunderIs("s0010;s0516;v5;", 2, 2, 0, 1);
        thunderIs("s0510;i12;", 4, 2, 3, 8);
        long refused = 4000000000000000000L;
        thunderIs("s0515;", -1, 2, refused + 4, refused + 4);
        thunderIs("s0515;", 8, 2, refused + 6, refused + 6);
        thunderIs("s0515;", 7, 1, refused + 4, refused + 4);
        thunderIs("s0515;", 7, 21, refused + 6, refused + 6);
    }

    private void thunderAtTheEnds() {
        due.says("(0 .. 30 at most; from its own PLACE: to lesser ones): how likely a SHORE HAS it behind these: "
            + "a fraction.");
        // At an end thunder holds it there, and an hour without brings it back: 3 of 4.
        thunderIs("s0529;i30;", 2, 2, 3, 4);
        thunderIs("s0501;i00;", 2, 2, 3, 4);
        thunderIs("s0527;i28;v5;", 2, 2, 3, 4);
        thunderIs("s0503;i02;v5;", 2, 2, 3, 4);
        // To the end, and no farther.
        thunderIs("s0030;s0520;i29;", 1, 5, 1, 5);
        thunderIs("s0030;s0520;i27;v4;", 1, 5, 1, 5);
        thunderIs("s0000;s0520;i02;v3;", 1, 5, 1, 5);
        thunderIs("s0001;s0520;i06;v5;", 1, 5, 1, 5);
        // A SHORE has no NOISE at its own PLACE, so that it drives THE ISLE nowhere from there.
        thunderIs("s0014;s0515;", 1, 2, 0, 1);
    }

    private void row() {
        due.says("A ROW of numbers (0 .. 99; 12 at most):");
        TowardTheLoudest bay = new TowardTheLoudest();
        due.is("row(-1)", bay.row(-1), -4);
        due.is("row(100)", bay.row(100), -6);
        due.is("count(7)", bay.count(7), 0);
        for (int many = 1; many <= 12; many++) {
            due.is("row()", bay.row(many % 2 == 0 ? 0 : 99), many);
        }
        due.is("the 13th", bay.row(0), -6);
        due.is("the 13th, below the least", bay.row(-1), -4);
        due.is("count(7)", bay.count(7), 12);
        due.is("clear()", bay.clear(), 12);
        due.is("row(0), as there is room again", bay.row(0), 1);
    }

    private void judgedIs(String text, int place, int... row) {
        TowardTheLoudest bay = told(text, row);
        due.is(text + " judge()", bay.judge(), place);
        due.is("count(7), as the ROW has none then", bay.count(7), 0);
        due.is("judge() of none", bay.judge(), -9);
    }

    private void judged() {
        due.says("JUDGED: the LOUDEST at HOUR, an hour on, .. (9 none; as THE ISLE goes): the first that is not so; -9.");
        judgedIs("s0510;", -9);
        judgedIs("v1;", -9, 9);
        judgedIs("v1;", 0, 0);
        judgedIs("s0510;", -9, 0);
        judgedIs("s0510;", 0, 9);
        judgedIs("s0510;", 0, 1);
        judgedIs("s0510;", 0, 99, 0);
        // 9 from when it is there on.
        judgedIs("s0512;", -9, 0, 0, 0, 9, 9, 9, 9, 9, 9, 9, 9, 9);
        judgedIs("s0512;", 3, 0, 0, 0, 0, 9);
        judgedIs("s0512;", 11, 0, 0, 0, 9, 9, 9, 9, 9, 9, 9, 9, 0);
        judgedIs("s0512;", 1, 0, 9, 9, 9);
        // HOUR is the first one's, and POWDER goes.
        judgedIs("s1500;", -9, 0, 9, 0, 9);
        judgedIs("s1500;h01;", -9, 9, 0, 9, 0);
        judgedIs("s4810;h11;s0501;", -9, 1, 1);
        judgedIs("s4810;p010;h11;s0501;", -9, 1, 0, 1);
        for (int v = 0; v <= 99; v++) {
            judgedIs("s0000;s0001;s0002;s0003;s0004;s0005;s0506;", v == 6 ? -9 : 0, v);
        }
    }

    private int draw(int n) {
        seed = (int) (seed * 1103515245L + 12345L);
        return (seed & 0x7fffffff) / 65536 % n;
    }

    /** Of FIGURE 0 nothing is drawn anywhere: THE ISLE stays for 24 hours where it is laid. */
    private void lots() {
        due.says("LOTS with a seed z: n bays (1 .. 20), each from now: THE ISLE at a DRAW below 31, then each SHORE, by "
            + "numbers, QUIET just if a DRAW below 4 is 0; then 24 hours: JOY more of all together; how many bays it "
            + "ends at a SHORE.");
        TowardTheLoudest none = new TowardTheLoudest();
        due.is("lots(0, 0, 0)", none.lots(0, 0, 0), -4);
        due.is("lots(21, 0, 0)", none.lots(21, 0, 0), -6);
        due.is("lots(1, 0, 0)", none.lots(1, 0, 0), 0);
        due.is("lots(20, 0, 1)", none.lots(20, 0, 1), 0);
        for (int z : SEEDS) {
            seed = z;
            int drawn = draw(31);
            for (int place = 0; place <= 30; place++) {
                TowardTheLoudest bay = new TowardTheLoudest();
                bay.shore(0, 0, place);
                due.is("lots(1, " + z + ", 0) at " + place, bay.lots(1, z, 0), place == drawn ? 24 : 0);
                due.is("lots(1, " + z + ", 1) at " + place, bay.lots(1, z, 1), place == drawn ? 1 : 0);
            }
        }
        // JOY of now is no more, and no more than 999 is had.
        TowardTheLoudest had = Due.told("s0000;i00;h99;");
        due.is("lots(1, 0, 0), with JOY of 99", had.lots(1, 0, 0), 24);
        for (int i = 0; i < 9; i++) {
            had.hours(99);
        }
        due.is("lots(1, 0, 0), with JOY of 990", had.lots(1, 0, 0), 9);
        due.is("lots(1, 0, 1), with JOY of 990", had.lots(1, 0, 1), 1);
        due.is("JOY, as before", had.count(4), 990);
        due.is("HOUR, as before", had.count(1), (8 + 990) % 24);
    }

    /** Who can be heard of seven draws THE ISLE to 0, if its own DRAW does not make it QUIET. */
    private void lotsByNumbers() {
        for (int z : SEEDS) {
            for (int heard = 0; heard < 7; heard++) {
                TowardTheLoudest bay = new TowardTheLoudest();
                bay.isle(1, 5);
                for (int shore = 0; shore < 7; shore++) {
                    bay.shore(0, shore == heard ? 5 : 0, shore == heard ? 0 : 24 + shore);
                    // What is QUIET now does not matter.
                    bay.hushes(shore);
                }
                seed = z;
                int place = draw(31);
                boolean ends = place == 0 || place >= 24 && place != 24 + heard;
                for (int shore = 0; shore < 7; shore++) {
                    ends |= draw(4) != 0 && shore == heard;
                }
                due.is("lots(1, " + z + ", 1) as " + heard + " is heard", bay.lots(1, z, 1), ends ? 1 : 0);
                due.is("QUIET ones, as before", bay.count(3), 127);
            }
        }
    }

    /** The DRAWS of one bay go on in the next; each begins anew with what is now. */
    private void lotsOfManyBays() {
        for (int n = 1; n <= 20; n++) {
            for (int z : SEEDS) {
                TowardTheLoudest bay = Due.told("s0500;s4830;p005;v5;");
                seed = z;
                int ends = 0;
                int joy = 0;
                for (int lot = 0; lot < n; lot++) {
                    TowardTheLoudest one = Due.told("s0500;s4830;p005;v5;");
                    one.isle(0, draw(31));
                    for (int shore = 0; shore < 2; shore++) {
                        if (draw(4) == 0) {
                            one.hushes(shore);
                        }
                    }
                    one.hours(24);
                    joy += one.count(4);
                    ends += one.isleOf(2) == -9 ? 0 : 1;
                }
                due.is("lots(" + n + ", " + z + ", 0)", bay.lots(n, z, 0), joy);
                due.is("lots(" + n + ", " + z + ", 1)", bay.lots(n, z, 1), ends);
            }
        }
    }

    private void draws() {
        due.says("DRAWS: z becomes z times 1103515245 plus 12345 (an int, wrapping); a DRAW below n is (z without its "
            + "sign's bit, over 65536, cut) modulo n.");
        // 12345 is less than 65536; 1103527590 is 16838 of them, as 31 times 543 is 16833.
        drawIs(0, 0);
        drawIs(1, 5);
        // -1103502900 without its sign's bit is 1043980748, 15929 times 65536 and more.
        drawIs(-1, 26);
        // Wrapped: 2147483647 times it is -1103515245 and the sign's bit, with 12345 1043980748 again.
        drawIs(Integer.MAX_VALUE, 26);
        // As 0, but for the sign's bit.
        drawIs(Integer.MIN_VALUE, 0);
    }

    private void drawIs(int z, int place) {
        for (int at = 0; at <= 30; at++) {
            TowardTheLoudest bay = new TowardTheLoudest();
            bay.shore(0, 0, at);
            due.is("lots(1, " + z + ", 1) at " + at, bay.lots(1, z, 1), at == place ? 1 : 0);
        }
    }
}
