/** Promises 25 and 36 to 38. */
public final class RowTest {
    private final Due due = new Due("RowTest");

    public static void main(String[] args) {
        RowTest test = new RowTest();
        test.row();
        test.clear();
        test.judge();
        test.whichKinds();
        test.whichFigures();
        test.whichPaces();
        test.whichRefused();
        test.due.end();
    }

    private static TowardTheLoudest told(String text, int... row) {
        TowardTheLoudest bay = Due.told(text);
        for (int v : row) {
            bay.row(v);
        }
        return bay;
    }

    private void row() {
        TowardTheLoudest bay = new TowardTheLoudest();
        due.is("row(0)", bay.row(0), 1);
        due.is("row(99)", bay.row(99), 2);
        due.is("row(-1)", bay.row(-1), -4);
        due.is("row(100)", bay.row(100), -6);
        due.is("count(7)", bay.count(7), 2);
        for (int i = 3; i <= 12; i++) {
            due.is("row(1)", bay.row(1), i);
        }
        due.is("row(1), the 13th", bay.row(1), -6);
        due.is("row(-1), behind 12", bay.row(-1), -4);
        due.is("count(7)", bay.count(7), 12);
        due.is("count(14)", bay.count(14), 2);
        due.is("count(16)", bay.count(16), 2);
        due.is("judge(), as 0 is not so", bay.judge(), 0);
    }

    private void clear() {
        TowardTheLoudest bay = told("s0510;", 1, 2, 3);
        due.is("clear()", bay.clear(), 3);
        due.is("clear(), again", bay.clear(), 0);
        due.is("count(7)", bay.count(7), 0);
        due.is("row(1)", bay.row(1), 1);
    }

    private void judge() {
        // At 10 behind 5, 7, 9 hours, where the other one is the LOUDEST.
        int[] so = {0, 0, 0, 0, 0, 1, 0, 1, 0, 1, 0, 1};
        due.is("judge(), all is so", told("s0510;s0520;", so).judge(), -9);
        for (int wrong = 0; wrong < 12; wrong++) {
            int[] row = so.clone();
            row[wrong] = 9;
            row[11] = 9;
            due.is("judge(), wrong from " + wrong, told("s0510;s0520;", row).judge(), wrong);
        }
        TowardTheLoudest bay = told("s0510;", 0, 0, 0, 0, 0, 9, 9);
        due.is("judge() with none", bay.judge(), -9);
        due.is("count(7)", bay.count(7), 0);
        due.is("judge(), again", bay.judge(), -9);
        bay.row(0);
        bay.row(3);
        due.is("judge()", bay.judge(), 1);
        due.is("count(7)", bay.count(7), 0);
        due.is("judge() of a DRUM at 8, 9, 10", told("s1510;", 0, 9, 0).judge(), -9);
        due.is("judge() of a CANNON that has POWDER once", told("s4810;s0511;", 0, 1, 1).judge(), -9);
        due.is("PLACE, as before", bay.isleOf(0), 15);
    }

    private void whichKinds() {
        due.is("which(0, 0) by 3 hours to it", told("s0510;", 15, 14, 13).which(0, 0), 0b100101);
        due.is("which(0, 0) by even hours alone", told("s0510;", 15, 14, 14, 13).which(0, 0), 0b001010);
        due.is("which(0, 0) by the hour 8 alone", told("s2810;", 15, 14, 14, 14).which(0, 0), 0b010000);
        due.is("which(0, 0) by nothing", told("s0510;").which(0, 0), 63);
        due.is("which(0, 0) by now", told("s0510;", 15).which(0, 0), 63);
        due.is("which(0, 0) by a wrong now", told("s0510;", 14).which(0, 0), 0);
        due.is("which(0, 0) by no PLACE", told("s0510;", 15, 99).which(0, 0), 0);
        // Louder than 9 at 10 is a CHOIR's 2 times 8 alone; a DRUM's 8 is not.
        due.is("which(1, 0) by 10", told("s0910;s0520;h02;i15;", 15, 16).which(1, 0), 0b001000);
        TowardTheLoudest stays = told("s0510;", 15, 14, 14, 13);
        stays.which(0, 0);
        due.is("count(7), as the ROW stays", stays.count(7), 4);
        due.is("KIND, as before", stays.shoreOf(0, 0), 0);
        TowardTheLoudest costs = told("s0510;p000;", 15, 14);
        due.is("which(0, 0) without POWDER", costs.which(0, 0), 0b101111);
    }

    private void whichFigures() {
        due.is("which(0, 1) by a move", told("s0510;", 15, 14, 13).which(0, 1), 0b1111111110);
        due.is("which(0, 1) by none", told("s0510;", 15, 15).which(0, 1), 1);
        due.is("which(0, 1) by nothing", told("s0510;").which(0, 1), 1023);
        due.is("which(0, 1) of a CANNON at 8", told("s4010;", 15, 14, 14).which(0, 1), 1 << 8);
        due.is("which(0, 1) of a CANNON at 9", told("s4010;", 15, 15, 14).which(0, 1), 1 << 9);
        due.is("which(0, 1) of a CANNON at 8 not", told("s4810;", 15, 15).which(0, 1), 1023 - 256);
        due.is("which(0, 1) against FALLS", told("s2020;s0510;", 15, 14).which(1, 1), 0b1111100000);
        due.is("which(0, 1) that COSTS", told("s1010;p000;", 15, 14).which(0, 1), 0b0001111111);
        due.is("FIGURE, as before", told("s0510;").shoreOf(0, 1), 5);
    }

    private void whichPaces() {
        due.is("which(0, 2) by nothing", told("s0510;").which(0, 2), 62);
        due.is("which(0, 2) by 5", told("s0510;", 15, 10).which(0, 2), 1 << 5);
        due.is("which(0, 2) by 1", told("s0510;v4;", 15, 14, 13).which(0, 2), 1 << 1);
        due.is("which(0, 2) by 2 or more", told("s0513;", 15, 13, 13).which(0, 2), 0b111100);
        due.is("which(0, 2) by 3 twice", told("s0509;", 15, 12, 9, 9).which(0, 2), 1 << 3);
        due.is("which(0, 2) by 6", told("s0501;", 15, 9).which(0, 2), 0);
        TowardTheLoudest bay = told("s0501;v4;", 15, 13);
        bay.which(0, 2);
        due.is("PACE, as before", bay.isleOf(1), 4);
    }

    private void whichRefused() {
        TowardTheLoudest bay = told("s0510;", 15);
        due.is("which(1, 3)", bay.which(1, 3), -1);
        due.is("which(-1, 0)", bay.which(-1, 0), -1);
        due.is("which(0, 3)", bay.which(0, 3), -2);
        due.is("which(0, -1)", bay.which(0, -1), -2);
        due.is("count(7)", bay.count(7), 1);
    }
}
