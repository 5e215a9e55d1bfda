import java.util.ArrayList;
import java.util.Arrays;
import java.util.List;
import java.util.TreeSet;
import java.util.function.Predicate;

/**
 * The REFUSALS of each promise: every call with every pairing of the last numbers that are still taken
 * and the first that are not, at both ends. The answer due is the first REFUSAL that fits, and nothing
 * changes but how many of it there were; what fits none is not refused.
 */
public final class RefusalsTest {
    private static final long OF_LONGS = 4000000000000000000L;

    private interface Call {
        long by(TowardTheLoudest bay, int[] a);
    }

    /** A REFUSAL of one number: when it is due. */
    private record Refusal(int number, Predicate<int[]> isDue) {
    }

    private final Due due = new Due("RefusalsTest");
    private boolean ofLongs;
    private String name;

    public static void main(String[] args) {
        RefusalsTest test = new RefusalsTest();
        test.lettersAndRow();
        test.whatIs();
        test.whatChanges();
        test.hours();
        test.takenBackAndImage();
        test.ofAnHour();
        test.inMind();
        test.otherwise();
        test.guessed();
        test.asAllIsNow();
        test.never();
        test.theOrder();
        test.eachNumber();
        test.due.end();
    }

    // ---- The bays that are asked ----

    private static void tellAll(TowardTheLoudest bay, String text) {
        for (int at = 0; at < text.length(); at++) {
            bay.feed(text.charAt(at));
        }
    }

    /** Three SHORES, with something of all that there may be. */
    private static TowardTheLoudest some() {
        TowardTheLoudest bay = Due.told("s0510;s4820;s1725;h03;");
        bay.hushes(1);
        bay.image();
        bay.powders(0, 50);
        bay.hushes(0);
        bay.isle(0, 22);
        bay.hours(5);
        tellAll(bay, "q2;");
        bay.row(bay.isleOf(0));
        bay.row(9);
        return bay;
    }

    /** No room for a SHORE, a letter or a number of the ROW more. */
    private static TowardTheLoudest full() {
        TowardTheLoudest bay = Due.told("s0510;s1912;s2914;s3916;s4918;s5920;s0922;h99;");
        bay.image();
        for (int i = 0; i < 8; i++) {
            bay.isle(0, i);
        }
        tellAll(bay, "q0;".repeat(31) + "q1;");
        for (int i = 0; i < 12; i++) {
            bay.row(6);
        }
        return bay;
    }

    /** DAY 999, HOUR 6: 17 hours are left. */
    private static TowardTheLoudest last() {
        TowardTheLoudest bay = Due.told("s0510;");
        for (int i = 0; i < 242; i++) {
            bay.hours(99);
        }
        bay.hours(16);
        return bay;
    }

    /** Anew each time, so that none is used for more than 512 calls. */
    private static TowardTheLoudest made(int which) {
        switch (which) {
            case 0: return new TowardTheLoudest();
            case 1: return some();
            case 2: return full();
            default: return last();
        }
    }

    private static final int[] SHORES = {0, 3, 7, 1};
    private static final int NEW = 0;
    private static final int SOME = 1;
    private static final int FULL = 2;
    private static final int LAST = 3;

    // ---- What is due ----

    private static Refusal when(int number, Predicate<int[]> isDue) {
        return new Refusal(number, isDue);
    }

    private static Refusal nobody(int at, int count) {
        return when(-1, a -> a[at] < 0 || a[at] >= count);
    }

    private static Refusal other(int at, int last) {
        return when(-2, a -> a[at] < 0 || a[at] > last);
    }

    private static Refusal below(int at, int least) {
        return when(-4, a -> a[at] < least);
    }

    private static Refusal above(int at, int greatest) {
        return when(-6, a -> a[at] > greatest);
    }

    /** Numbers at and next to both ends, what stands between them, and the farthest off. */
    private static int[] ends(int least, int greatest, int... between) {
        TreeSet<Integer> numbers = new TreeSet<>(List.of(Integer.MIN_VALUE, Integer.MIN_VALUE + 1, least - 1, least,
            greatest, greatest + 1, Integer.MAX_VALUE));
        for (int number : between) {
            numbers.add(number);
        }
        return numbers.stream().mapToInt(number -> number).toArray();
    }

    private static int[] shores(int which) {
        return ends(0, SHORES[which] - 1, 0);
    }

    /** Every pairing of the numbers of each argument. */
    private static List<int[]> pairings(int[]... numbers) {
        List<int[]> pairings = new ArrayList<>();
        pairings.add(new int[0]);
        for (int[] of : numbers) {
            List<int[]> longer = new ArrayList<>();
            for (int[] pairing : pairings) {
                for (int number : of) {
                    int[] more = Arrays.copyOf(pairing, pairing.length + 1);
                    more[pairing.length] = number;
                    longer.add(more);
                }
            }
            pairings = longer;
        }
        return pairings;
    }

    private static int firstOf(List<Refusal> order, int[] a) {
        for (Refusal refusal : order) {
            if (refusal.isDue().test(a)) {
                return refusal.number();
            }
        }
        return 0;
    }

    /** Of a call that changes nothing, whether it is refused or not. */
    private void asks(int which, Call call, List<Refusal> order, int[]... numbers) {
        List<Integer> whole = Whole.all(made(which));
        for (int[] a : pairings(numbers)) {
            TowardTheLoudest bay = made(which);
            goesAsDue(bay, call, order, a);
            due.holds(called(a) + " changes nothing", Whole.all(bay).equals(whole));
        }
    }

    /** Of a call that changes something just if it is not refused. */
    private void changes(int which, Call call, List<Refusal> order, int[]... numbers) {
        List<Integer> whole = Whole.all(made(which));
        for (int[] a : pairings(numbers)) {
            TowardTheLoudest bay = made(which);
            boolean refused = goesAsDue(bay, call, order, a);
            due.holds(called(a) + (refused ? " changes nothing" : " changes something"),
                Whole.all(bay).equals(whole) == refused);
        }
    }

    private String called(int[] a) {
        return name + Arrays.toString(a);
    }

    private boolean goesAsDue(TowardTheLoudest bay, Call call, List<Refusal> order, int[] a) {
        int[] counts = refusals(bay);
        int refusal = firstOf(order, a);
        long answer = call.by(bay, a);
        if (refusal != 0) {
            due.is(called(a), answer, ofLongs ? OF_LONGS - refusal : refusal);
            counts[-refusal - 1]++;
        } else {
            due.holds(called(a) + " is not refused: " + answer,
                answer == -9 || answer >= 0 && answer < OF_LONGS);
        }
        due.holds(called(a) + ", how many REFUSALS there were", Arrays.equals(refusals(bay), counts));
        return refusal != 0;
    }

    private static int[] refusals(TowardTheLoudest bay) {
        int[] counts = new int[6];
        for (int i = 0; i < 6; i++) {
            counts[i] = bay.count(11 + i);
        }
        return counts;
    }

    private void of(String call, boolean isOfLongs) {
        name = call;
        ofLongs = isOfLongs;
    }

    // ---- The promises ----

    private void lettersAndRow() {
        due.says("`int feed(int letter)`: A letter comes: how many there are. -4; -6 (255; 96, too).");
        of("feed", false);
        for (int which : new int[] {NEW, SOME, FULL}) {
            changes(which, (bay, a) -> bay.feed(a[0]),
                List.of(below(0, 0), when(-6, a -> a[0] > 255 || which == FULL)), ends(0, 255));
        }
        due.says("`int row(int v)`: A number more of the ROW: how many. -4; -6 (99; 12, too).");
        of("row", false);
        for (int which : new int[] {NEW, SOME, FULL}) {
            changes(which, (bay, a) -> bay.row(a[0]),
                List.of(below(0, 0), when(-6, a -> a[0] > 99 || which == FULL)), ends(0, 99));
        }
    }

    private void whatIs() {
        due.says("`int shoreOf(int shore, int what)`: Of a SHORE: KIND (what 0), FIGURE (1), PLACE (2), POWDER (3), "
            + "1 QUIET (4), JOY (5), COSTS (6), 1 it HAS THE ISLE (7). -1; -2.");
        of("shoreOf", false);
        for (int which : new int[] {NEW, SOME, FULL}) {
            asks(which, (bay, a) -> bay.shoreOf(a[0], a[1]),
                List.of(nobody(0, SHORES[which]), other(1, 7)), shores(which), ends(0, 7));
        }
        TowardTheLoudest bay = Due.told("s3916;p055;q0;i15;s0112;h03;i16;");
        int[] want = {3, 9, 16, 55, 1, 0, 1, 1};
        for (int what = 0; what < 8; what++) {
            due.is("shoreOf(0, " + what + ")", bay.shoreOf(0, what), want[what]);
        }
        due.says("`int isleOf(int what)`: THE ISLE: PLACE (what 0), PACE (1), who HAS it (2; -9). -2.");
        of("isleOf", false);
        asks(SOME, (b, a) -> b.isleOf(a[0]), List.of(other(0, 2)), ends(0, 2));
        due.is("isleOf(0)", bay.isleOf(0), 16);
        due.is("isleOf(1)", bay.isleOf(1), 1);
        due.is("isleOf(2)", bay.isleOf(2), 0);
        due.is("isleOf(2), none", new TowardTheLoudest().isleOf(2), -9);
    }

    private void whatChanges() {
        due.says("`int shore(int kind, int figure, int place)`: A SHORE more: its number. -2; -4; -6 (9; 7 there are); "
            + "-1 the PLACE; -3 a SHORE is there.");
        of("shore", false);
        for (int which : new int[] {NEW, SOME, FULL}) {
            changes(which, (bay, a) -> bay.shore(a[0], a[1], a[2]),
                List.of(other(0, 5), below(1, 0), when(-6, a -> a[1] > 9 || which == FULL), nobody(2, 31),
                    when(-3, a -> which == SOME && (a[2] == 10 || a[2] == 20 || a[2] == 25))),
                ends(0, 5), ends(0, 9), ends(0, 30, 10, 20, 25));
        }
        due.says("`int powders(int shore, int v)`: POWDER becomes v: what it was. -1; -4; -6 99.");
        of("powders", false);
        for (int which : new int[] {NEW, SOME, FULL}) {
            changes(which, (bay, a) -> bay.powders(a[0], a[1]),
                List.of(nobody(0, SHORES[which]), below(1, 0), above(1, 99)), shores(which), ends(0, 99));
        }
        due.says("`int hushes(int shore)`: QUIET, or not any more: 1, 0. -1.");
        of("hushes", false);
        for (int which : new int[] {NEW, SOME, FULL}) {
            changes(which, (bay, a) -> bay.hushes(a[0]), List.of(nobody(0, SHORES[which])), shores(which));
        }
        due.says("`int isle(int what, int v)`: PLACE (what 0), PACE (1) of THE ISLE becomes v: what it was. -2; "
            + "-4 (0; 1); -6 (30; 5).");
        of("isle", false);
        changes(SOME, (bay, a) -> bay.isle(a[0], a[1]),
            List.of(other(0, 1), when(-4, a -> a[1] < a[0]), when(-6, a -> a[1] > (a[0] == 0 ? 30 : 5))),
            ends(0, 1), ends(0, 30, 1, 5, 6));
    }

    private void hours() {
        due.says("`int hours(int n)`: n hours go by: PLACE of THE ISLE. -4 below 1; -6 (99; DAY above 999).");
        of("hours", false);
        for (int which : new int[] {NEW, SOME, FULL}) {
            changes(which, (bay, a) -> bay.hours(a[0]), List.of(below(0, 1), above(0, 99)), ends(1, 99, 24));
        }
        for (int n : ends(1, 99, 16, 17, 18)) {
            TowardTheLoudest bay = made(LAST);
            List<Integer> now = Whole.now(bay);
            boolean refused = goesAsDue(bay, (b, a) -> b.hours(a[0]), List.of(below(0, 1), above(0, 17)), new int[] {n});
            due.holds("hours(" + n + ") on the last day", Whole.now(bay).equals(now) == refused);
        }
    }

    private void takenBackAndImage() {
        due.says("`int back()`: TAKEN BACK: how many can still be. -3 none.");
        of("back", false);
        changes(NEW, (bay, a) -> bay.back(), List.of(when(-3, a -> true)), new int[] {0});
        changes(SOME, (bay, a) -> bay.back(), List.of(), new int[] {0});
        TowardTheLoudest full = full();
        for (int left = 7; left >= 0; left--) {
            due.is("back()", full.back(), left);
        }
        due.is("back() of none", full.back(), -3);
        due.is("count(13)", full.count(13), 1);
        due.says("`int restore()`: It is RESTORED: DAY. -3 there is none.");
        of("restore", false);
        changes(NEW, (bay, a) -> bay.restore(), List.of(when(-3, a -> true)), new int[] {0});
        changes(SOME, (bay, a) -> bay.restore(), List.of(), new int[] {0});
        due.is("restore(), DAY", full.restore(), 4);
        due.is("restore(), as it stays", full.restore(), 4);
        due.says("`int image()`: THE IMAGE is taken: DAY.");
        of("image", false);
        changes(SOME, (bay, a) -> bay.image(), List.of(), new int[] {0});
        due.is("image() on the last day", last().image(), 999);
        due.is("image() at first", new TowardTheLoudest().image(), 0);
    }

    private void ofAnHour() {
        due.says("`int noise(int shore, int hour)`: NOISE at an hour. -1 either.");
        of("noise", false);
        for (int which : new int[] {NEW, SOME, FULL}) {
            asks(which, (bay, a) -> bay.noise(a[0], a[1]),
                List.of(nobody(0, SHORES[which]), nobody(1, 24)), shores(which), ends(0, 23));
        }
        due.says("`int loudest(int hour, int what)`: Of an hour: the LOUDEST (what 0; -9), all NOISE (1). -1; -2.");
        of("loudest", false);
        for (int which : new int[] {NEW, SOME, FULL}) {
            asks(which, (bay, a) -> bay.loudest(a[0], a[1]),
                List.of(nobody(0, 24), other(1, 1)), ends(0, 23), ends(0, 1));
        }
    }

    private void inMind() {
        List<Refusal> order = List.of(below(0, 0), above(0, 99), other(1, 1));
        due.says("`int behind(int n, int what)`: n hours on: PLACE (what 0), who HAS it (1; -9). -4; -6 99; -2.");
        of("behind", false);
        asks(SOME, (bay, a) -> bay.behind(a[0], a[1]), order, ends(0, 99), ends(0, 1));
        due.says("`int most(int n, int what)`: MOST (what 0; -9), how often (1). -4; -6 99; -2.");
        of("most", false);
        asks(SOME, (bay, a) -> bay.most(a[0], a[1]), order, ends(0, 99), ends(0, 1));
        due.says("`int farthest(int n, int what)`: FARTHEST: the least (what 0), the greatest (1). -4; -6 99; -2.");
        of("farthest", false);
        asks(SOME, (bay, a) -> bay.farthest(a[0], a[1]), order, ends(0, 99), ends(0, 1));
        due.says("`int spent(int n)`: SPENT. -4; -6 99.");
        of("spent", false);
        asks(SOME, (bay, a) -> bay.spent(a[0]), List.of(below(0, 0), above(0, 99)), ends(0, 99));
        due.says("`int ring(int n)`: RING; -9. -4; -6 99.");
        of("ring", false);
        asks(SOME, (bay, a) -> bay.ring(a[0]), List.of(below(0, 0), above(0, 99)), ends(0, 99));
        due.says("`int first(int shore)`: FIRST; -9. -1.");
        of("first", false);
        for (int which : new int[] {NEW, SOME, FULL}) {
            asks(which, (bay, a) -> bay.first(a[0]), List.of(nobody(0, SHORES[which])), shores(which));
        }
        due.says("`int whoFirst(int what)`: WHO FIRST (what 0; -9), NEVER (1, bits), STILL (2; -9). -2.");
        of("whoFirst", false);
        asks(SOME, (bay, a) -> bay.whoFirst(a[0]), List.of(other(0, 2)), ends(0, 2));
        due.says("`int shoreBehind(int shore, int n, int what)`: n hours on: JOY (what 0), POWDER (1). -1; -4; -6 99; -2.");
        of("shoreBehind", false);
        for (int which : new int[] {NEW, SOME, FULL}) {
            asks(which, (bay, a) -> bay.shoreBehind(a[0], a[1], a[2]), ofShoreHoursWhat(which),
                shores(which), ends(0, 99), ends(0, 1));
        }
    }

    private static List<Refusal> ofShoreHoursWhat(int which) {
        return List.of(nobody(0, SHORES[which]), below(1, 0), above(1, 99), other(2, 1));
    }

    private void asksOfShoreAndHours(Call call) {
        for (int which : new int[] {NEW, SOME, FULL}) {
            asks(which, call, List.of(nobody(0, SHORES[which]), below(1, 0), above(1, 99)), shores(which), ends(0, 99));
        }
    }

    private void otherwise() {
        due.says("`int hush(int shore, int n)`: HUSH; -9. -1; -4; -6 99.");
        of("hush", false);
        asksOfShoreAndHours((bay, a) -> bay.hush(a[0], a[1]));
        due.says("`int fewest(int shore, int n)`: FEWEST (bits); -9. -1; -4; -6 99.");
        of("fewest", false);
        asksOfShoreAndHours((bay, a) -> bay.fewest(a[0], a[1]));
        due.says("`int swap(int shore, int n)`: SWAP; -9. -1; -4; -6 99.");
        of("swap", false);
        asksOfShoreAndHours((bay, a) -> bay.swap(a[0], a[1]));
        due.says("`int fromWhere(int shore, int n, int what)`: FROM WHERE: how many (what 0), the least (1; -9). "
            + "-1; -4; -6 99; -2.");
        of("fromWhere", false);
        for (int which : new int[] {NEW, SOME, FULL}) {
            asks(which, (bay, a) -> bay.fromWhere(a[0], a[1], a[2]), ofShoreHoursWhat(which),
                shores(which), ends(0, 99), ends(0, 1));
        }
        due.says("`int powderWanted(int shore, int n, int what)`: POWDER WANTED (what 0), how often (1). "
            + "-1; -4; -6 99; -2.");
        of("powderWanted", false);
        for (int which : new int[] {NEW, SOME, FULL}) {
            asks(which, (bay, a) -> bay.powderWanted(a[0], a[1], a[2]), ofShoreHoursWhat(which),
                shores(which), ends(0, 99), ends(0, 1));
        }
        due.says("`int newShore(int kind, int n, int what)`: NEW SHORE: the PLACE (what 0; -9), how often (1; -9). "
            + "-2 either; -4; -6 99.");
        of("newShore", false);
        for (int which : new int[] {NEW, SOME, FULL}) {
            asks(which, (bay, a) -> bay.newShore(a[0], a[1], a[2]),
                List.of(other(0, 5), other(2, 1), below(1, 0), above(1, 99)), ends(0, 5), ends(0, 99), ends(0, 1));
        }
    }

    private void guessed() {
        due.says("`int which(int shore, int what)`: WHICH by the ROW (it stays): KINDS (what 0), FIGURES (1), "
            + "PACES (2), bits. -1; -2.");
        of("which", false);
        for (int which : new int[] {NEW, SOME, FULL}) {
            asks(which, (bay, a) -> bay.which(a[0], a[1]),
                List.of(nobody(0, SHORES[which]), other(1, 2)), shores(which), ends(0, 2));
        }
        due.says("`int treaty(int one, int other, int what)`: TREATY (what 0; -9), KEPT (1). -1 either (one twice); -2.");
        of("treaty", false);
        for (int which : new int[] {NEW, SOME, FULL}) {
            asks(which, (bay, a) -> bay.treaty(a[0], a[1], a[2]),
                List.of(nobody(0, SHORES[which]), nobody(1, SHORES[which]), when(-1, a -> a[0] == a[1]), other(2, 1)),
                shores(which), shores(which), ends(0, 1));
        }
        due.says("`long thunder(int shore, int n, int t, int part)`: THUNDER; part 0 above, 1 below the line. "
            + "Refused as told: -1; -4 (n below 0, t below 2); -6 (7; 20); -2.");
        of("thunder", true);
        for (int which : new int[] {NEW, SOME}) {
            asks(which, (bay, a) -> bay.thunder(a[0], a[1], a[2], a[3]),
                List.of(nobody(0, SHORES[which]), below(1, 0), below(2, 2), above(1, 7), above(2, 20), other(3, 1)),
                shores(which), ends(0, 7), ends(2, 20), ends(0, 1));
        }
        due.says("`int lots(int n, int z, int what)`: LOTS: JOY (what 0), bays (1). -4; -6 20; -2.");
        of("lots", false);
        asks(SOME, (bay, a) -> bay.lots(a[0], a[1], a[2]),
            List.of(below(0, 1), above(0, 20), other(2, 1)), ends(1, 20), ends(-1, 1), ends(0, 1));
    }

    private void asAllIsNow() {
        due.says("`int nearest(int what)`: NEAREST (what 0; -9), how far (1; -9). -2.");
        of("nearest", false);
        asks(SOME, (bay, a) -> bay.nearest(a[0]), List.of(other(0, 1)), ends(0, 1));
        due.says("`int shared(int what)`: SHARED (what 0), left over (1), JOYLESS (2, bits). -2.");
        of("shared", false);
        asks(NEW, (bay, a) -> bay.shared(a[0]), List.of(other(0, 2)), ends(0, 2));
        asks(SOME, (bay, a) -> bay.shared(a[0]), List.of(other(0, 2)), ends(0, 2));
        due.says("`int loudHour(int what)`: LOUD HOUR (what 0), CALM (1, bits). -2.");
        of("loudHour", false);
        asks(SOME, (bay, a) -> bay.loudHour(a[0]), List.of(other(0, 1)), ends(0, 1));
        due.says("`long mean(int part)`: MEAN PLACE; part likewise. Refused as told: -2.");
        of("mean", true);
        asks(NEW, (bay, a) -> bay.mean(a[0]), List.of(other(0, 1)), ends(0, 1));
        asks(SOME, (bay, a) -> bay.mean(a[0]), List.of(other(0, 1)), ends(0, 1));
        due.says("`int gap(int what)`: GAP: how many (what 0; -9), the lesser PLACE (1; -9). -2.");
        of("gap", false);
        asks(SOME, (bay, a) -> bay.gap(a[0]), List.of(other(0, 1)), ends(0, 1));
    }

    /** What is never refused. */
    private void never() {
        due.says("`TowardTheLoudest()`: No SHORES.");
        due.is("count(0)", new TowardTheLoudest().count(0), 0);
        due.is("shoreOf(0, 0)", new TowardTheLoudest().shoreOf(0, 0), -1);
        due.says("`int count(int what)`: 0 SHORES, 1 HOUR, 2 DAY, 3 QUIET ones (bits), 4 all JOY, 5 all POWDER, "
            + "6 letters, 7 in the ROW, 8 what can be TAKEN BACK, 11 .. 16 REFUSALS -1 .. -6. -9 for another what.");
        of("count", false);
        asks(SOME, (bay, a) -> bay.count(a[0]), List.of(), ends(0, 16, 8, 9, 10, 11));
        for (int what : new int[] {Integer.MIN_VALUE, -1, 9, 10, 17, Integer.MAX_VALUE}) {
            due.is("count(" + what + ")", some().count(what), -9);
        }
        int[][] counts = {{0, 7}, {1, 11}, {2, 4}, {3, 0}, {6, 96}, {7, 12}, {8, 8}};
        for (int[] of : counts) {
            due.is("count(" + of[0] + ")", full().count(of[0]), of[1]);
        }
        due.says("`int bay()`: The letters, which are no more then (with a FAULT neither), are a BAY: how many "
            + "STATEMENTS; the FAULT (nothing is counted).");
        for (String text : new String[] {"", "q9;", "q0;q1;"}) {
            TowardTheLoudest bay = Due.told("s0500;s0501;");
            due.is("bay() of " + text, Due.tell(bay, text), text.isEmpty() ? -1000 : text.equals("q9;") ? -2000 : 2);
            due.is("count(6)", bay.count(6), 0);
            due.holds("nothing is counted", Arrays.equals(refusals(bay), new int[6]));
        }
        due.says("`int judge()`: JUDGED; -9 (whichever it answers, the ROW has none then).");
        for (int v : new int[] {0, 9}) {
            TowardTheLoudest bay = Due.told("s0510;");
            bay.row(v);
            due.is("judge() of " + v, bay.judge(), v == 0 ? -9 : 0);
            due.is("count(7)", bay.count(7), 0);
            due.holds("nothing is counted", Arrays.equals(refusals(bay), new int[6]));
        }
        due.says("`int clear()`: The ROW has none then: how many it had.");
        TowardTheLoudest full = full();
        due.is("clear() of 12", full.clear(), 12);
        due.is("clear() of none", full.clear(), 0);
        due.is("row(0)", full.row(0), 1);
        due.holds("nothing is counted", Arrays.equals(refusals(full), new int[6]));
    }

    private void theOrder() {
        due.says("REFUSALS (the call answers the number, the first that fits in the order in which it tells them; "
            + "nothing changes but how many there were):");
        // Each number is wrong, or all but the first, and so on.
        TowardTheLoudest bay = full();
        due.is("shore(6, -1, 31)", bay.shore(6, -1, 31), -2);
        due.is("shore(5, -1, 31)", bay.shore(5, -1, 31), -4);
        due.is("shore(5, 9, 31)", bay.shore(5, 9, 31), -6);
        due.is("shore(5, 9, 10)", bay.shore(5, 9, 10), -6);
        due.is("thunder(7, -1, 21, 2)", bay.thunder(7, -1, 21, 2), OF_LONGS + 1);
        due.is("thunder(6, 8, 1, 2)", bay.thunder(6, 8, 1, 2), OF_LONGS + 4);
        due.is("thunder(6, 8, 2, 2)", bay.thunder(6, 8, 2, 2), OF_LONGS + 6);
        due.is("thunder(6, 7, 20, 2)", bay.thunder(6, 7, 20, 2), OF_LONGS + 2);
        due.is("newShore(6, -1, 0)", bay.newShore(6, -1, 0), -2);
        due.is("newShore(5, -1, 2)", bay.newShore(5, -1, 2), -2);
        due.is("newShore(5, -1, 1)", bay.newShore(5, -1, 1), -4);
        due.is("shoreBehind(7, 100, 2)", bay.shoreBehind(7, 100, 2), -1);
        due.is("shoreBehind(6, 100, 2)", bay.shoreBehind(6, 100, 2), -6);
        due.is("shoreBehind(6, 99, 2)", bay.shoreBehind(6, 99, 2), -2);
        due.holds("all are counted", Arrays.equals(refusals(bay), new int[] {2, 5, 0, 3, 0, 4}));
        due.holds("nothing else changes", Whole.all(bay).equals(Whole.all(full())));
    }

    private void eachNumber() {
        due.says("-1 NOBODY: no such SHORE, PLACE, hour, one twice. -2 OTHER: what, KIND. -3 STATE: it is not as told. "
            + "-4 BELOW: a number below the least. -6 ROOM: a number above the greatest, no room.");
        TowardTheLoudest bay = Due.told("s0510;s0520;");
        long[] answers = {bay.hushes(2), bay.shore(0, 5, 31), bay.noise(0, 24), bay.treaty(1, 1, 0), bay.isleOf(3),
            bay.shore(6, 5, 0), bay.shore(0, 5, 10), bay.back(), bay.restore(), bay.hours(0), bay.hours(100),
            full().shore(0, 5, 0)};
        long[] want = {-1, -1, -1, -1, -2, -2, -3, -3, -3, -4, -6, -6};
        for (int i = 0; i < want.length; i++) {
            due.is("refused call " + i, answers[i], want[i]);
        }
        due.holds("each is counted", Arrays.equals(refusals(bay), new int[] {4, 2, 3, 1, 0, 1}));
        due.says("Of longs 4000000000000000000 less them (-1 as 4000000000000000001).");
        due.is("thunder(2, 0, 2, 0)", bay.thunder(2, 0, 2, 0), 4000000000000000001L);
        due.is("thunder(0, 0, 2, 2)", bay.thunder(0, 0, 2, 2), 4000000000000000002L);
        due.is("thunder(0, 0, 1, 0)", bay.thunder(0, 0, 1, 0), 4000000000000000004L);
        due.is("thunder(0, 0, 21, 0)", bay.thunder(0, 0, 21, 0), 4000000000000000006L);
        due.is("mean(2)", bay.mean(2), 4000000000000000002L);
        due.holds("each is counted, too", Arrays.equals(refusals(bay), new int[] {5, 4, 3, 2, 0, 2}));
    }
}
