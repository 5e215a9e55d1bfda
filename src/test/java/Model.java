import java.math.BigInteger;
import java.util.ArrayDeque;
import java.util.ArrayList;
import java.util.Deque;
import java.util.List;
import java.util.function.ToIntFunction;
import java.util.regex.Matcher;
import java.util.regex.Pattern;

/**
 * A second reading of the document, written apart from the class and with no care for room or
 * speed: each question is answered from a list of the bays of all hours. ModelTest holds both
 * against each other.
 */
final class Model {
    private static final int NONE = -9;
    private static final Pattern BAY =
        Pattern.compile("(?:s[0-9]{4};|p[0-9]{3};|[qv][0-9];|[ih][0-9]{2};)+");

    static final class Refused extends RuntimeException {
        private static final long serialVersionUID = 1;
        final int number;

        Refused(int number) {
            super(null, null, false, false);
            this.number = number;
        }
    }

    static class Shore {
        int kind;
        int figure;
        int place;
        int powder = 9;
        int joy;
        boolean quiet;

        Shore(int kind, int figure, int place) {
            this.kind = kind;
            this.figure = figure;
            this.place = place;
        }

        Shore copy() {
            Shore copy = new Shore(kind, figure, place);
            copy.powder = powder;
            copy.joy = joy;
            copy.quiet = quiet;
            return copy;
        }

        private int drum(int hour) {
            return hour % 2 == 1 ? 0 : figure + 3;
        }

        int loud(int hour) {
            return switch (kind) {
                case 0 -> figure;
                case 1 -> drum(hour);
                case 2 -> 4;
                case 3 -> List.of(9, 10, 11, 18, 19, 20).contains(hour) ? drum(hour) * 2 : drum(hour);
                case 4 -> hour % 12 == figure ? 30 : 0;
                case 5 -> 1;
                default -> throw new IllegalStateException();
            };
        }

        int costs() {
            if (kind == 4) {
                return 5;
            }
            return (kind == 1 || kind == 3) && figure > 6 ? 1 : 0;
        }
    }

    static final class World {
        final List<Shore> shores = new ArrayList<>();
        int isle = 15;
        int pace = 1;
        int hour = 8;
        int day;

        World copy() {
            World copy = new World();
            for (Shore shore : shores) {
                copy.shores.add(shore.copy());
            }
            copy.isle = isle;
            copy.pace = pace;
            copy.hour = hour;
            copy.day = day;
            return copy;
        }

        int noise(int i, int at) {
            Shore shore = shores.get(i);
            if (shore.quiet || shore.place == isle || shore.powder < shore.costs()) {
                return 0;
            }
            return shore.loud(at);
        }

        int loudest(int at) {
            List<Integer> those = new ArrayList<>();
            for (int i = 0; i < shores.size(); i++) {
                if (noise(i, at) > 0) {
                    those.add(i);
                }
            }
            those.sort((a, b) -> noise(a, at) != noise(b, at) ? noise(b, at) - noise(a, at)
                : far(a) != far(b) ? far(a) - far(b) : a - b);
            return those.isEmpty() ? NONE : those.get(0);
        }

        int far(int i) {
            return Math.abs(shores.get(i).place - isle);
        }

        int owner() {
            for (int i = 0; i < shores.size(); i++) {
                if (shores.get(i).place == isle) {
                    return i;
                }
            }
            return NONE;
        }

        boolean has(int i) {
            return owner() == i;
        }

        World pass(boolean thunder) {
            int loudest = loudest(hour);
            int[] spent = new int[shores.size()];
            for (int i = 0; i < shores.size(); i++) {
                spent[i] = noise(i, hour) > 0 ? shores.get(i).costs() : 0;
            }
            for (int i = 0; i < shores.size(); i++) {
                shores.get(i).powder -= spent[i];
            }
            for (int step = 0; step < pace && loudest != NONE; step++) {
                int goal = shores.get(loudest).place;
                if (!thunder) {
                    isle += Integer.signum(goal - isle);
                } else if (goal < isle) {
                    isle = Math.min(30, isle + 1);
                } else {
                    isle = Math.max(0, isle - 1);
                }
            }
            if (++hour == 24) {
                hour = 0;
                day++;
            }
            if (owner() != NONE) {
                Shore shore = shores.get(owner());
                shore.joy = Math.min(999, shore.joy + 1);
            }
            return this;
        }

        int sum(ToIntFunction<Shore> of) {
            return shores.stream().mapToInt(of).sum();
        }

        int noises(int at) {
            int sum = 0;
            for (int i = 0; i < shores.size(); i++) {
                sum += noise(i, at);
            }
            return sum;
        }

        /** The bays behind 0 .. n hours. */
        List<World> trace(int n) {
            List<World> trace = new ArrayList<>(List.of(copy()));
            for (int i = 0; i < n; i++) {
                trace.add(trace.get(i).copy().pass(false));
            }
            return trace;
        }

        int times(int shore, int n) {
            int times = 0;
            for (World then : trace(n).subList(1, n + 1)) {
                times += then.has(shore) ? 1 : 0;
            }
            return times;
        }
    }

    private World now = new World();
    private World image;
    private final Deque<World> past = new ArrayDeque<>();
    private final StringBuilder letters = new StringBuilder();
    private final List<Integer> row = new ArrayList<>();
    private final int[] refusals = new int[7];

    long call(String name, int... a) {
        try {
            return answer(name, a);
        } catch (Refused refused) {
            refusals[-refused.number]++;
            boolean isLong = name.equals("thunder") || name.equals("mean");
            return isLong ? 4000000000000000000L - refused.number : refused.number;
        }
    }

    int placeBehind(int n) {
        return now.trace(n).get(n).isle;
    }

    int loudestBehind(int n) {
        World then = now.trace(n).get(n);
        return then.loudest(then.hour);
    }

    private static void need(boolean isSo, int number) {
        if (!isSo) {
            throw new Refused(number);
        }
    }

    private void needShore(int shore) {
        need(0 <= shore && shore < now.shores.size(), -1);
    }

    private static void needHours(int n) {
        need(n >= 0, -4);
        need(n <= 99, -6);
    }

    private static void needWhat(int what, int last) {
        need(0 <= what && what <= last, -2);
    }

    private void needHour(int hour) {
        need(0 <= hour && hour <= 23, -1);
    }

    private long answer(String name, int... a) {
        return switch (name) {
            case "feed", "bay", "row", "judge", "clear" -> told(name, a);
            case "shore", "powders", "hushes", "isle", "hours", "back", "image", "restore" -> change(name, a);
            case "shoreOf", "isleOf", "count", "noise", "loudest", "nearest", "shared", "loudHour", "mean", "gap" ->
                asNow(name, a);
            case "behind", "shoreBehind", "first", "whoFirst", "most", "farthest", "spent", "ring" ->
                inMind(name, a);
            case "which", "treaty", "thunder", "lots" -> guessed(name, a);
            default -> wished(name, a);
        };
    }

    private long told(String name, int... a) {
        switch (name) {
            case "feed":
                need(a[0] >= 0, -4);
                need(a[0] <= 255, -6);
                need(letters.length() < 96, -6);
                return letters.append((char) a[0]).length();
            case "bay": {
                String text = letters.toString();
                letters.setLength(0);
                return bay(text);
            }
            case "row":
                need(a[0] >= 0, -4);
                need(a[0] <= 99, -6);
                need(row.size() < 12, -6);
                row.add(a[0]);
                return row.size();
            case "judge": {
                List<World> trace = now.trace(row.size());
                long answer = NONE;
                for (int i = row.size() - 1; i >= 0; i--) {
                    int loudest = trace.get(i).loudest(trace.get(i).hour);
                    if (row.get(i) != (loudest < 0 ? 9 : loudest)) {
                        answer = i;
                    }
                }
                row.clear();
                return answer;
            }
            default: {
                int had = row.size();
                row.clear();
                return had;
            }
        }
    }

    private int bay(String text) {
        for (int length = 1; length <= text.length(); length++) {
            Matcher start = BAY.matcher(text.substring(0, length));
            if (!start.matches() && !start.hitEnd()) {
                return -1000 - (length - 1);
            }
        }
        if (!BAY.matcher(text).matches()) {
            return -1000 - text.length();
        }
        World then = now.copy();
        int place = 0;
        String[] statements = text.split(";");
        for (String statement : statements) {
            if (!comes(statement, then)) {
                return -2000 - place;
            }
            place += statement.length() + 1;
        }
        now = then;
        past.clear();
        return statements.length;
    }

    private static boolean comes(String statement, World then) {
        String numbers = statement.substring(1);
        int all = Integer.parseInt(numbers);
        int digit = numbers.charAt(0) - '0';
        int count = then.shores.size();
        switch (statement.charAt(0)) {
            case 's': {
                int place = all % 100;
                boolean taken = then.shores.stream().anyMatch(shore -> shore.place == place);
                if (digit > 5 || place > 30 || taken || count == 7) {
                    return false;
                }
                then.shores.add(new Shore(digit, all / 100 % 10, place));
                return true;
            }
            case 'p':
                if (digit >= count) {
                    return false;
                }
                then.shores.get(digit).powder = all % 100;
                return true;
            case 'q':
                if (digit >= count) {
                    return false;
                }
                then.shores.get(digit).quiet ^= true;
                return true;
            case 'i':
                then.isle = all;
                return all <= 30;
            case 'v':
                then.pace = all;
                return all >= 1 && all <= 5;
            default:
                for (int i = 0; i < all; i++) {
                    then.pass(false);
                }
                return all >= 1 && then.day <= 999;
        }
    }

    private void keep() {
        past.push(now.copy());
        if (past.size() > 8) {
            past.removeLast();
        }
    }

    private long change(String name, int... a) {
        switch (name) {
            case "shore":
                needWhat(a[0], 5);
                need(a[1] >= 0, -4);
                need(a[1] <= 9 && now.shores.size() < 7, -6);
                need(a[2] >= 0 && a[2] <= 30, -1);
                need(now.shores.stream().noneMatch(shore -> shore.place == a[2]), -3);
                now.shores.add(new Shore(a[0], a[1], a[2]));
                past.clear();
                return now.shores.size() - 1;
            case "powders": {
                needShore(a[0]);
                needHours(a[1]);
                keep();
                int before = now.shores.get(a[0]).powder;
                now.shores.get(a[0]).powder = a[1];
                return before;
            }
            case "hushes":
                needShore(a[0]);
                keep();
                now.shores.get(a[0]).quiet ^= true;
                return now.shores.get(a[0]).quiet ? 1 : 0;
            case "isle": {
                needWhat(a[0], 1);
                need(a[1] >= (a[0] == 0 ? 0 : 1), -4);
                need(a[1] <= (a[0] == 0 ? 30 : 5), -6);
                keep();
                int before = a[0] == 0 ? now.isle : now.pace;
                if (a[0] == 0) {
                    now.isle = a[1];
                } else {
                    now.pace = a[1];
                }
                return before;
            }
            case "hours": {
                need(a[0] >= 1, -4);
                need(a[0] <= 99, -6);
                World then = now.copy();
                for (int i = 0; i < a[0]; i++) {
                    then.pass(false);
                }
                need(then.day <= 999, -6);
                keep();
                now = then;
                return now.isle;
            }
            case "back":
                need(!past.isEmpty(), -3);
                now = past.pop();
                return past.size();
            case "image":
                image = now.copy();
                return now.day;
            default:
                need(image != null, -3);
                now = image.copy();
                past.clear();
                return now.day;
        }
    }

    private long asNow(String name, int... a) {
        switch (name) {
            case "shoreOf": {
                needShore(a[0]);
                needWhat(a[1], 7);
                Shore shore = now.shores.get(a[0]);
                return new int[] {shore.kind, shore.figure, shore.place, shore.powder, shore.quiet ? 1 : 0,
                    shore.joy, shore.costs(), now.has(a[0]) ? 1 : 0}[a[1]];
            }
            case "isleOf":
                needWhat(a[0], 2);
                return new int[] {now.isle, now.pace, now.owner()}[a[0]];
            case "count": {
                int quiet = 0;
                for (int i = 0; i < now.shores.size(); i++) {
                    quiet += now.shores.get(i).quiet ? 1 << i : 0;
                }
                if (a[0] >= 11 && a[0] <= 16) {
                    return refusals[a[0] - 10];
                }
                return a[0] < 0 || a[0] > 8 ? NONE : new int[] {now.shores.size(), now.hour, now.day, quiet,
                    now.sum(shore -> shore.joy), now.sum(shore -> shore.powder), letters.length(), row.size(),
                    past.size()}[a[0]];
            }
            case "noise":
                needShore(a[0]);
                needHour(a[1]);
                return now.noise(a[0], a[1]);
            case "loudest":
                needHour(a[0]);
                needWhat(a[1], 1);
                return a[1] == 0 ? now.loudest(a[0]) : now.noises(a[0]);
            case "nearest": {
                needWhat(a[0], 1);
                for (int far = 0; far <= 30; far++) {
                    for (int i = 0; i < now.shores.size(); i++) {
                        if (now.far(i) == far) {
                            return a[0] == 0 ? i : far;
                        }
                    }
                }
                return NONE;
            }
            case "shared": {
                needWhat(a[0], 2);
                int joy = now.sum(shore -> shore.joy);
                int count = now.shores.size();
                int joyless = 0;
                for (int i = 0; i < count; i++) {
                    joyless |= now.shores.get(i).joy == 0 ? 1 << i : 0;
                }
                return a[0] == 2 ? joyless : count == 0 ? 0 : a[0] == 0 ? joy / count : joy % count;
            }
            case "loudHour": {
                needWhat(a[0], 1);
                int best = 23;
                int calm = 0;
                for (int hour = 23; hour >= 0; hour--) {
                    best = now.noises(hour) >= now.noises(best) ? hour : best;
                    calm += now.loudest(hour) == NONE ? 1 << hour : 0;
                }
                return a[0] == 0 ? best : calm;
            }
            case "mean":
                needWhat(a[0], 1);
                return fraction(now.sum(shore -> shore.place), Math.max(1, now.shores.size()), a[0]);
            default: {
                needWhat(a[0], 1);
                int[] places = now.shores.stream().mapToInt(shore -> shore.place).sorted().toArray();
                int[] best = {NONE, NONE};
                for (int i = 1; i < places.length; i++) {
                    if (places[i] - places[i - 1] > best[0]) {
                        best = new int[] {places[i] - places[i - 1], places[i - 1]};
                    }
                }
                return best[a[0]];
            }
        }
    }

    private static long fraction(long above, long below, int part) {
        BigInteger divisor = BigInteger.valueOf(above).gcd(BigInteger.valueOf(below));
        return (part == 0 ? above : below) / divisor.longValueExact();
    }

    private long inMind(String name, int... a) {
        switch (name) {
            case "behind": {
                needHours(a[0]);
                needWhat(a[1], 1);
                World then = now.trace(a[0]).get(a[0]);
                return a[1] == 0 ? then.isle : then.owner();
            }
            case "shoreBehind": {
                needShore(a[0]);
                needHours(a[1]);
                needWhat(a[2], 1);
                Shore then = now.trace(a[1]).get(a[1]).shores.get(a[0]);
                return a[2] == 0 ? then.joy : then.powder;
            }
            case "first":
                needShore(a[0]);
                return first(a[0]);
            case "whoFirst": {
                needWhat(a[0], 2);
                List<World> trace = now.trace(100);
                int never = 0;
                for (int i = 0; i < now.shores.size(); i++) {
                    never |= first(i) < 0 ? 1 << i : 0;
                }
                for (int i = 0; i <= 99 && a[0] != 1; i++) {
                    if (a[0] == 0 && trace.get(i).owner() >= 0) {
                        return trace.get(i).owner();
                    }
                    if (a[0] == 2 && trace.get(i).isle == trace.get(i + 1).isle) {
                        return i;
                    }
                }
                return a[0] == 1 ? never : NONE;
            }
            case "most": {
                needHours(a[0]);
                needWhat(a[1], 1);
                int best = NONE;
                int often = 0;
                for (int i = 0; i < now.shores.size(); i++) {
                    if (now.times(i, a[0]) > often) {
                        best = i;
                        often = now.times(i, a[0]);
                    }
                }
                return a[1] == 0 ? best : often;
            }
            case "farthest": {
                needHours(a[0]);
                needWhat(a[1], 1);
                int[] places = now.trace(a[0]).stream().mapToInt(then -> then.isle).sorted().toArray();
                return a[1] == 0 ? places[0] : places[places.length - 1];
            }
            case "spent":
                needHours(a[0]);
                return now.sum(shore -> shore.powder) - now.trace(a[0]).get(a[0]).sum(shore -> shore.powder);
            default: {
                needHours(a[0]);
                List<World> trace = now.trace(a[0] + 48);
                for (int hours : new int[] {24, 48}) {
                    if (trace.get(a[0] + hours).isle == trace.get(a[0]).isle) {
                        return hours;
                    }
                }
                return NONE;
            }
        }
    }

    private int first(int shore) {
        List<World> trace = now.trace(99);
        for (int i = 0; i <= 99; i++) {
            if (trace.get(i).has(shore)) {
                return i;
            }
        }
        return NONE;
    }

    private long wished(String name, int... a) {
        if (name.equals("newShore")) {
            needWhat(a[0], 5);
            needWhat(a[2], 1);
            needHours(a[1]);
            return newShore(a[0], a[1], a[2]);
        }
        needShore(a[0]);
        needHours(a[1]);
        int told = a[0];
        int n = a[1];
        int best = NONE;
        int often = now.times(told, n);
        switch (name) {
            case "hush":
                for (int i = 0; i < now.shores.size(); i++) {
                    World then = now.copy();
                    then.shores.get(i).quiet = true;
                    if (i != told && then.times(told, n) > often) {
                        best = i;
                        often = then.times(told, n);
                    }
                }
                return best;
            case "fewest":
                for (int size = 0; size < 7; size++) {
                    for (int bits = 0; bits < 128; bits++) {
                        if (Integer.bitCount(bits) == size && hushedHas(told, bits, n)) {
                            return bits;
                        }
                    }
                }
                return NONE;
            case "swap":
                for (int i = 0; i < now.shores.size(); i++) {
                    for (int j = i + 1; j < now.shores.size(); j++) {
                        World then = now.copy();
                        then.shores.get(i).place = now.shores.get(j).place;
                        then.shores.get(j).place = now.shores.get(i).place;
                        if (then.times(told, n) > often) {
                            best = 10 * i + j;
                            often = then.times(told, n);
                        }
                    }
                }
                return best;
            case "fromWhere": {
                needWhat(a[2], 1);
                int many = 0;
                for (int place = 30; place >= 0; place--) {
                    World then = now.copy();
                    then.isle = place;
                    if (then.trace(n).get(n).has(told)) {
                        many++;
                        best = place;
                    }
                }
                return a[2] == 0 ? many : best;
            }
            case "powderWanted": {
                needWhat(a[2], 1);
                often = -1;
                for (int v = 0; v <= 99; v++) {
                    World then = now.copy();
                    then.shores.get(told).powder = v;
                    int times = then.times(told, n);
                    if (times > often) {
                        often = times;
                        best = v;
                    }
                }
                return a[2] == 0 ? best : often;
            }
            default:
                throw new IllegalArgumentException(name);
        }
    }

    private boolean hushedHas(int told, int bits, int n) {
        if (bits >> now.shores.size() != 0 || (bits >> told & 1) == 1) {
            return false;
        }
        World then = now.copy();
        for (int i = 0; i < now.shores.size(); i++) {
            then.shores.get(i).quiet |= (bits >> i & 1) == 1;
        }
        return then.times(told, n) > 0;
    }

    private int newShore(int kind, int n, int what) {
        int best = NONE;
        int often = NONE;
        for (int place = 0; place <= 30 && now.shores.size() < 7; place++) {
            World then = now.copy();
            int free = place;
            if (now.shores.stream().anyMatch(shore -> shore.place == free)) {
                continue;
            }
            then.shores.add(new Shore(kind, 5, place));
            int times = then.times(now.shores.size(), n);
            if (times > often) {
                often = times;
                best = place;
            }
        }
        return what == 0 ? best : often;
    }

    private long guessed(String name, int... a) {
        switch (name) {
            case "which": {
                needShore(a[0]);
                needWhat(a[1], 2);
                int bits = 0;
                for (int guess = 0; guess <= 9; guess++) {
                    World then = now.copy();
                    Shore shore = then.shores.get(a[0]);
                    if (a[1] == 0 && guess > 5 || a[1] == 2 && (guess == 0 || guess > 5)) {
                        continue;
                    }
                    shore.kind = a[1] == 0 ? guess : shore.kind;
                    shore.figure = a[1] == 1 ? guess : shore.figure;
                    then.pace = a[1] == 2 ? guess : then.pace;
                    List<World> trace = then.trace(12);
                    boolean isSo = true;
                    for (int i = 0; i < row.size(); i++) {
                        isSo &= trace.get(i).isle == row.get(i);
                    }
                    bits |= isSo ? 1 << guess : 0;
                }
                return bits;
            }
            case "treaty": {
                needShore(a[0]);
                needShore(a[1]);
                need(a[0] != a[1], -1);
                needWhat(a[2], 1);
                for (int one = 0; one < 2; one++) {
                    for (int other = 0; other < 2; other++) {
                        boolean isSo = had(a, one, other, a[0]) >= had(a, 1 - one, other, a[0])
                            && had(a, one, other, a[1]) >= had(a, one, 1 - other, a[1]);
                        if (a[2] == 1) {
                            return isSo ? 1 : 0;
                        }
                        if (isSo) {
                            return 10 * one + other;
                        }
                    }
                }
                return NONE;
            }
            case "thunder": {
                needShore(a[0]);
                need(a[1] >= 0 && a[2] >= 2, -4);
                need(a[1] <= 7 && a[2] <= 20, -6);
                needWhat(a[3], 1);
                long below = BigInteger.valueOf(a[2]).pow(a[1]).longValueExact();
                return fraction(ways(now, a[0], a[1], a[2]), below, a[3]);
            }
            default: {
                need(a[0] >= 1, -4);
                need(a[0] <= 20, -6);
                needWhat(a[2], 1);
                return lots(a[0], a[1], a[2]);
            }
        }
    }

    private int had(int[] pair, int one, int other, int whose) {
        World then = now.copy();
        then.shores.get(pair[0]).quiet = one == 0;
        then.shores.get(pair[1]).quiet = other == 0;
        return then.times(whose, 12);
    }

    private static long ways(World from, int shore, int n, int t) {
        if (n == 0) {
            return from.has(shore) ? 1 : 0;
        }
        return ways(from.copy().pass(true), shore, n - 1, t)
            + (t - 1) * ways(from.copy().pass(false), shore, n - 1, t);
    }

    private int seed;

    private int draw(int n) {
        seed = (int) (seed * 1103515245L + 12345L);
        return (int) ((seed & 0x7fffffffL) / 65536 % n);
    }

    private int lots(int n, int z, int what) {
        seed = z;
        int joy = 0;
        int ends = 0;
        for (int lot = 0; lot < n; lot++) {
            World then = now.copy();
            then.isle = draw(31);
            for (Shore shore : then.shores) {
                shore.quiet = draw(4) == 0;
            }
            then = then.trace(24).get(24);
            joy += then.sum(shore -> shore.joy) - now.sum(shore -> shore.joy);
            ends += then.owner() >= 0 ? 1 : 0;
        }
        return what == 0 ? joy : ends;
    }
}
