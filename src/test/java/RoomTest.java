import com.sun.management.ThreadMXBean;
import java.lang.management.ManagementFactory;

/**
 * The room of a run: an object is made of few rows, and no call makes a further one, with whatever
 * numbers it is called, so that 512 of the dearest calls need no more room than none.
 */
public final class RoomTest {
    private static final int[] NUMBERS = {Integer.MIN_VALUE, -1, 0, 1, 2, 6, 7, 20, 30, 99, Integer.MAX_VALUE};
    private static final int MOST_BYTES = 16 * 1024;

    public static void main(String[] args) {
        Due due = new Due("RoomTest");
        ThreadMXBean threads = (ThreadMXBean) ManagementFactory.getThreadMXBean();
        TowardTheLoudest bay = new TowardTheLoudest();
        callAll(bay);
        long thread = Thread.currentThread().getId();
        long before = threads.getThreadAllocatedBytes(thread);
        long none = threads.getThreadAllocatedBytes(thread) - before;
        before = threads.getThreadAllocatedBytes(thread);
        callAll(bay);
        long calls = threads.getThreadAllocatedBytes(thread) - before;
        before = threads.getThreadAllocatedBytes(thread);
        bay = new TowardTheLoudest();
        long object = threads.getThreadAllocatedBytes(thread) - before;
        due.is("what calls need", calls - none, 0);
        due.holds("an object needs little: " + object, object > 0 && object < MOST_BYTES);
        due.end();
    }

    private static void callAll(TowardTheLoudest bay) {
        for (int shore = 0; shore < 7; shore++) {
            bay.shore(shore % 6, 9 - shore, 4 * shore);
        }
        for (int a : NUMBERS) {
            changeAll(bay, a);
            for (int b : NUMBERS) {
                askAll(bay, a, b);
                for (int c : NUMBERS) {
                    bay.shore(a, b, c);
                    bay.shoreBehind(a, b, c);
                    bay.fromWhere(a, b, c);
                    bay.powderWanted(a, b, c);
                    bay.newShore(a, b, c);
                    bay.treaty(a, b, c);
                    bay.lots(a, b, c);
                    bay.thunder(a, b, c, 0);
                    bay.thunder(a, 7, b, c);
                }
            }
        }
        bay.image();
        bay.restore();
    }

    private static void changeAll(TowardTheLoudest bay, int a) {
        bay.feed(a);
        bay.bay();
        bay.feed('h');
        bay.feed('0');
        bay.feed('1');
        bay.feed(';');
        bay.bay();
        bay.row(a);
        bay.hushes(a);
        bay.hours(a);
        bay.isleOf(a);
        bay.first(a);
        bay.whoFirst(a);
        bay.nearest(a);
        bay.shared(a);
        bay.loudHour(a);
        bay.mean(a);
        bay.gap(a);
        bay.spent(a);
        bay.ring(a);
        bay.count(a);
        bay.back();
        bay.judge();
        bay.clear();
    }

    private static void askAll(TowardTheLoudest bay, int a, int b) {
        bay.shoreOf(a, b);
        bay.powders(a, b);
        bay.isle(a, b);
        bay.noise(a, b);
        bay.loudest(a, b);
        bay.behind(a, b);
        bay.most(a, b);
        bay.farthest(a, b);
        bay.hush(a, b);
        bay.fewest(a, b);
        bay.swap(a, b);
        bay.which(a, b);
    }
}
