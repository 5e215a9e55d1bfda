import java.util.ArrayList;
import java.util.List;

/** All that can be seen of an object but its REFUSALS. */
final class Whole {
    private Whole() {
    }

    /** What is there now, by calls that change nothing. */
    static List<Integer> now(TowardTheLoudest bay) {
        List<Integer> seen = new ArrayList<>();
        for (int what = 0; what <= 8; what++) {
            seen.add(bay.count(what));
        }
        for (int what = 0; what <= 2; what++) {
            seen.add(bay.isleOf(what));
        }
        for (int shore = 0; shore < bay.count(0); shore++) {
            for (int what = 0; what <= 5; what++) {
                seen.add(bay.shoreOf(shore, what));
            }
        }
        return seen;
    }

    /** That, and the ROW, what can be TAKEN BACK, the letters and THE IMAGE: looking uses them up. */
    static List<Integer> all(TowardTheLoudest bay) {
        List<Integer> seen = new ArrayList<>(now(bay));
        seen.add(bay.count(0) > 0 ? bay.which(0, 0) : 0);
        seen.add(bay.judge());
        for (int i = 0; i < 9 && bay.count(8) > 0; i++) {
            seen.add(bay.back());
            for (int what = 1; what <= 5; what++) {
                seen.add(bay.count(what));
            }
            seen.add(bay.isleOf(0));
            seen.add(bay.isleOf(1));
        }
        seen.add(bay.bay());
        seen.add(bay.count(3));
        seen.add(bay.restore());
        seen.addAll(now(bay));
        return seen;
    }
}
