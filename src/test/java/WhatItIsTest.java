import java.util.List;
import java.util.concurrent.Callable;
import java.util.concurrent.ExecutorService;
import java.util.concurrent.Executors;
import java.util.concurrent.Future;

/** "What it is", from the document's first words on, and "Not promised". */
public final class WhatItIsTest {
    private final Due due = new Due("WhatItIsTest");

    public static void main(String[] args) throws Exception {
        WhatItIsTest test = new WhatItIsTest();
        test.isle();
        test.shores();
        test.where();
        test.whichHadBetter();
        test.howItWent();
        test.treaties();
        test.toldAndDrawn();
        test.calls();
        test.notPromised();
        test.severalThreads();
        test.due.end();
    }

    private void isle() {
        due.says("It drifts toward the loudest: an isle in a bay that moves each hour towards the shore of most noise,");
        TowardTheLoudest bay = Due.told("s0210;s0320;");
        due.is("the LOUDEST", bay.loudest(8, 0), 1);
        for (int place = 16; place <= 20; place++) {
            due.is("hours(1)", bay.hours(1), place);
        }
        TowardTheLoudest other = Due.told("s0310;s0220;");
        for (int place = 14; place >= 10; place--) {
            due.is("hours(1)", other.hours(1), place);
        }
    }

    private void shores() {
        due.says("shores of kinds that sound by hours, some with powder, some quiet by treaty, "
            + "the one that has it quiet with joy;");
        // A SHORE at all hours, a DRUM at even ones, a CANNON at two.
        TowardTheLoudest bay = Due.told("s0500;s1501;s4502;");
        for (int hour = 0; hour <= 23; hour++) {
            due.is("noise(0, " + hour + ")", bay.noise(0, hour), 5);
            due.is("noise(1, " + hour + ")", bay.noise(1, hour), hour % 2 == 0 ? 8 : 0);
            due.is("noise(2, " + hour + ")", bay.noise(2, hour), hour == 5 || hour == 17 ? 30 : 0);
        }
        due.is("powders(2, 4), less than it needs", bay.powders(2, 4), 9);
        due.is("noise(2, 5)", bay.noise(2, 5), 0);
        due.is("hushes(1)", bay.hushes(1), 1);
        due.is("noise(1, 8)", bay.noise(1, 8), 0);
        due.is("isle(0, 0)", bay.isle(0, 0), 15);
        due.is("noise(0, 8) of who has it", bay.noise(0, 8), 0);
        due.is("hours(3)", bay.hours(3), 0);
        due.is("JOY", bay.shoreOf(0, 5), 3);
    }

    private void where() {
        due.says("where it is when, who has it how long, who first, who never, a ring it goes in,");
        TowardTheLoudest bay = Due.told("s0511;s0318;s0030;");
        for (int n = 0; n <= 99; n++) {
            // 4 hours to 11, a PLACE off at each second one.
            due.is("behind(" + n + ", 0)", bay.behind(n, 0), n < 4 ? 15 - n : 11 + n % 2);
        }
        due.is("most(9, 0)", bay.most(9, 0), 0);
        due.is("most(9, 1)", bay.most(9, 1), 3);
        due.is("whoFirst(0)", bay.whoFirst(0), 0);
        due.is("first(0)", bay.first(0), 4);
        due.is("whoFirst(1), bits", bay.whoFirst(1), 0b110);
        due.is("ring(0)", bay.ring(0), -9);
        due.is("ring(4)", bay.ring(4), 24);
        due.is("ring(5)", bay.ring(5), 24);
    }

    private void whichHadBetter() {
        due.says("which shore had better be quiet, the fewest that must be so that a told one has it, "
            + "where it would have to begin,");
        TowardTheLoudest bay = Due.told("s0210;s0313;s0420;s0525;");
        due.is("hush(0, 99): one alone is too few", bay.hush(0, 99), -9);
        due.is("fewest(0, 99), bits", bay.fewest(0, 99), 0b1110);
        due.is("hush(2, 99)", bay.hush(2, 99), 3);
        due.is("fewest(2, 99), none, as it passes there", bay.fewest(2, 99), 0);
        due.is("fewest(3, 99), none", bay.fewest(3, 99), 0);
        due.is("fromWhere(3, 2, 0)", bay.fromWhere(3, 2, 0), 3);
        due.is("fromWhere(3, 2, 1)", bay.fromWhere(3, 2, 1), 23);
    }

    private void howItWent() {
        due.says("which kind a shore is by how the isle went, who was loud by where it drifted,");
        TowardTheLoudest bay = Due.told("s1510;s0220;");
        // At 8 and at 10 towards 10, at 9 and at 11 towards 20: a DRUM of any FIGURE, or a CHOIR.
        int[] went = {15, 14, 15, 14, 15};
        for (int place : went) {
            bay.row(place);
        }
        due.is("which(0, 0), KINDS", bay.which(0, 0), 1 << 1 | 1 << 3);
        due.is("which(0, 1), FIGURES", bay.which(0, 1), 1023);
        due.is("which(0, 2), PACES", bay.which(0, 2), 1 << 1);
        due.is("clear()", bay.clear(), 5);
        for (int loudest : new int[] {0, 1, 0, 1}) {
            bay.row(loudest);
        }
        due.is("judge(), all of it so", bay.judge(), -9);
        for (int loudest : new int[] {0, 1, 1, 1}) {
            bay.row(loudest);
        }
        due.is("judge(), the third not so", bay.judge(), 2);
    }

    private void treaties() {
        due.says("two shores who keep a treaty or break it, thunder by chance, joy shared, the best place for a new shore,");
        // Both too far off to gain by noise, and both near enough.
        due.is("treaty(0, 1, 1), kept", Due.told("s0501;s0529;").treaty(0, 1, 1), 1);
        due.is("treaty(0, 1, 1), broken", Due.told("s0510;s0521;").treaty(0, 1, 1), 0);
        due.is("treaty(0, 1, 0), broken by the nearer one", Due.told("s0510;s0521;").treaty(0, 1, 0), 10);
        TowardTheLoudest bay = Due.told("s0513;s0020;");
        due.is("thunder(0, 2, 3, 0)", bay.thunder(0, 2, 3, 0), 4);
        due.is("thunder(0, 2, 3, 1)", bay.thunder(0, 2, 3, 1), 9);
        bay.hours(9);
        due.is("shared(0), JOY of 8 by two", bay.shared(0), 4);
        due.is("shared(1)", bay.shared(1), 0);
        // On the way to 13 a DRUM has it at once, and draws it back at each second hour.
        due.is("newShore(1, 20, 0)", Due.told("s0513;").newShore(1, 20, 0), 14);
        due.is("newShore(1, 20, 1)", Due.told("s0513;").newShore(1, 20, 1), 10);
    }

    private void toldAndDrawn() {
        due.says("told places looked at, bays by lot, bays told in letters, an image.");
        TowardTheLoudest bay = new TowardTheLoudest();
        due.is("bay() of s0513;", Due.tell(bay, "s0513;"), 1);
        due.is("bay() of s0513; again", Due.tell(bay, "s0513;"), -2000);
        due.is("row(15)", bay.row(15), 1);
        due.is("which(0, 2), PACES", bay.which(0, 2), 62);
        due.is("row(10)", bay.row(10), 2);
        due.is("which(0, 2), none", bay.which(0, 2), 0);
        // Not QUIET, it has THE ISLE in the end, as 24 hours are enough from wherever it lies.
        int ends = bay.lots(20, 1, 1);
        due.holds("of 20 bays by lot it ends there in some: " + ends, ends > 10 && ends < 20);
        due.is("lots(20, 1, 1) by the same seed", bay.lots(20, 1, 1), ends);
        due.is("image()", bay.image(), 0);
        due.is("hours(50)", bay.hours(50), 13);
        due.is("restore()", bay.restore(), 0);
        due.is("isleOf(0)", bay.isleOf(0), 15);
        due.is("count(4)", bay.count(4), 0);
    }

    private void calls() {
        due.says("An object is used for at most 512 calls after it has been made; what later calls answer is free.");
        TowardTheLoudest bay = new TowardTheLoudest();
        for (int call = 1; call <= 510; call++) {
            due.is("call " + call + ": noise(0, 8)", bay.noise(0, 8), -1);
        }
        due.is("call 511: count(11)", bay.count(11), 510);
        due.is("call 512: shore(0, 5, 10)", bay.shore(0, 5, 10), 0);
    }

    /** What is free is not looked at; what one object holds is no other one's. */
    private void notPromised() {
        due.says("How the state is held inside the object is free, as are the speed of each call, the text of toString "
            + "and the behaviour of equals and hashCode.");
        TowardTheLoudest bay = Due.told("s0510;s0520;h05;");
        bay.row(1);
        bay.image();
        bay.feed('s');
        bay.hushes(0);
        bay.hushes(7);
        TowardTheLoudest other = new TowardTheLoudest();
        for (int what = 0; what <= 16; what++) {
            due.is("count(" + what + ") of another", other.count(what), what == 1 ? 8 : what == 9 || what == 10 ? -9 : 0);
        }
        due.is("restore() of another", other.restore(), -3);
        due.is("back() of another", other.back(), -3);
        due.is("isleOf(0) of another", other.isleOf(0), 15);
        due.is("isleOf(0)", bay.isleOf(0), 10);
        due.is("count(7)", bay.count(7), 1);
    }

    private void severalThreads() throws Exception {
        due.says("Use of one object from several threads at once is not promised to be safe. Nothing is promised beyond "
            + "the answers and state changes described above, and nothing about an object after its 512th call.");
        Callable<Integer> own = () -> {
            int sum = 0;
            for (int i = 0; i < 200; i++) {
                TowardTheLoudest bay = Due.told("s0510;s1620;s4925;v2;");
                bay.hours(50);
                sum = 31 * sum + bay.lots(20, i, 0) + bay.fewest(0, 50) + bay.isleOf(0) + bay.count(5);
            }
            return sum;
        };
        int alone = own.call();
        ExecutorService threads = Executors.newFixedThreadPool(4);
        for (Future<Integer> answer : threads.invokeAll(List.of(own, own, own, own))) {
            due.is("what a thread of several is answered by objects of its own", answer.get(), alone);
        }
        threads.shutdown();
    }
}
