/**
 * An isle in a bay that drifts each hour towards the shore of most noise.
 *
 * <p>The words in capitals are those of the document, ../shared/DOC.md. All rows are made in
 * constructors and used again: no call makes an object, so that a long run keeps to its room.
 */
public final class TowardTheLoudest {
    private static final int NONE = -9;

    private static final int FITS = 0;
    private static final int NOBODY = -1;
    private static final int OTHER = -2;
    private static final int STATE = -3;
    private static final int BELOW = -4;
    private static final int ROOM = -6;
    private static final long LONG_REFUSAL = 4000000000000000000L;

    private static final int MOST_SHORES = 7;
    private static final int LAST_PLACE = 30;
    private static final int LAST_KIND = 5;
    private static final int LAST_FIGURE = 9;
    private static final int MOST_POWDER = 99;
    private static final int FASTEST = 5;
    private static final int LAST_HOUR = 23;
    private static final int LAST_DAY = 999;
    private static final int MOST_HOURS = 99;
    private static final int MOST_JOY = 999;
    private static final int MOST_TOLD = 12;
    private static final int MOST_TOLD_NUMBER = 99;

    private final Mind mind = new Mind();
    private final Bay now = mind.now;
    private final Bay pictured = new Bay();
    private boolean hasImage;
    private final Past past = new Past();
    private final Letters letters = new Letters();
    private final int[] told = new int[MOST_TOLD];
    private int toldCount;
    private final int[] refusals = new int[-ROOM + 1];

    public TowardTheLoudest() {
    }

    // ---- Refusals ----

    private int refuse(int refusal) {
        if (refusal < 0 && -refusal < refusals.length) {
            refusals[-refusal]++;
        }
        return refusal;
    }

    private static int below(int number, int least) {
        return number < least ? BELOW : FITS;
    }

    private static int above(int number, int greatest) {
        return number > greatest ? ROOM : FITS;
    }

    private static int outside(int number, int least, int greatest) {
        return number < least ? BELOW : above(number, greatest);
    }

    private static int unknown(int what, int last) {
        return what < 0 || what > last ? OTHER : FITS;
    }

    private static int nobody(int number, int count) {
        return number < 0 || number >= count ? NOBODY : FITS;
    }

    private static int firstOf(int one, int next) {
        return one != FITS ? one : next;
    }

    private int refusalOf(int shore, int n) {
        return firstOf(nobody(shore, now.shores), outside(n, 0, MOST_HOURS));
    }

    private int refusalOf(int shore, int n, int what) {
        return firstOf(refusalOf(shore, n), unknown(what, 1));
    }

    private static int refusalInMind(int n, int what) {
        return firstOf(outside(n, 0, MOST_HOURS), unknown(what, 1));
    }

    // ---- Letters ----

    public int feed(int letter) {
        int refusal = firstOf(outside(letter, 0, 255), letters.isFull() ? ROOM : FITS);
        return refusal != FITS ? refuse(refusal) : letters.write(letter);
    }

    public int bay() {
        int answer = letters.fault();
        if (answer == FITS) {
            answer = tryLetters();
        }
        letters.size = 0;
        return answer;
    }

    /** Only the mind's bay is changed until the last STATEMENT has come, as with a FAULT none may. */
    private int tryLetters() {
        Bay bay = mind.asNow();
        int statements = 0;
        for (int at = 0; at < letters.size && statements < letters.size; statements++) {
            if (letters.refusalOfStatement(at, bay) != FITS) {
                return -2000 - at;
            }
            letters.carryOut(at, bay);
            at += letters.lengthAt(at);
        }
        now.become(bay);
        past.count = 0;
        return statements;
    }

    // ---- What is ----

    public int shoreOf(int shore, int what) {
        int refusal = firstOf(nobody(shore, now.shores), unknown(what, 7));
        if (refusal != FITS) {
            return refuse(refusal);
        }
        switch (what) {
            case 0: return now.kind[shore];
            case 1: return now.figure[shore];
            case 2: return now.place[shore];
            case 3: return now.powder[shore];
            case 4: return now.isQuiet(shore) ? 1 : 0;
            case 5: return now.joy[shore];
            case 6: return now.costOf(shore);
            default: return now.hasIsle(shore) ? 1 : 0;
        }
    }

    public int isleOf(int what) {
        switch (what) {
            case 0: return now.islePlace;
            case 1: return now.pace;
            case 2: return now.owner();
            default: return refuse(OTHER);
        }
    }

    public int count(int what) {
        switch (what) {
            case 0: return now.shores;
            case 1: return now.hour;
            case 2: return now.day;
            case 3: return now.quiet;
            case 4: return now.joyTogether();
            case 5: return now.powderTogether();
            case 6: return letters.size;
            case 7: return toldCount;
            case 8: return past.count;
            default: return what >= 11 && what <= 16 ? refusals[what - 10] : NONE;
        }
    }

    // ---- What changes ----

    public int shore(int kind, int figure, int place) {
        int refusal = now.refusalOfShore(kind, figure, place);
        if (refusal != FITS) {
            return refuse(refusal);
        }
        now.add(kind, figure, place);
        past.count = 0;
        return now.shores - 1;
    }

    public int powders(int shore, int v) {
        int refusal = now.refusalOfPowder(shore, v);
        if (refusal != FITS) {
            return refuse(refusal);
        }
        past.keep(now);
        int before = now.powder[shore];
        now.setPowder(shore, v);
        return before;
    }

    public int hushes(int shore) {
        int refusal = nobody(shore, now.shores);
        if (refusal != FITS) {
            return refuse(refusal);
        }
        past.keep(now);
        now.turnQuiet(shore);
        return now.isQuiet(shore) ? 1 : 0;
    }

    public int isle(int what, int v) {
        int refusal = now.refusalOfIsle(what, v);
        if (refusal != FITS) {
            return refuse(refusal);
        }
        past.keep(now);
        int before = what == 0 ? now.islePlace : now.pace;
        now.setIsle(what, v);
        return before;
    }

    public int hours(int n) {
        int refusal = now.refusalOfHours(n);
        if (refusal != FITS) {
            return refuse(refusal);
        }
        past.keep(now);
        now.passHours(n);
        return now.islePlace;
    }

    public int back() {
        if (past.count == 0) {
            return refuse(STATE);
        }
        past.takeBack(now);
        return past.count;
    }

    public int image() {
        pictured.become(now);
        hasImage = true;
        return now.day;
    }

    public int restore() {
        if (!hasImage) {
            return refuse(STATE);
        }
        now.become(pictured);
        past.count = 0;
        return now.day;
    }

    // ---- As all is now ----

    public int noise(int shore, int hour) {
        int refusal = firstOf(nobody(shore, now.shores), nobody(hour, LAST_HOUR + 1));
        return refusal != FITS ? refuse(refusal) : now.noiseOf(shore, hour);
    }

    public int loudest(int hour, int what) {
        int refusal = firstOf(nobody(hour, LAST_HOUR + 1), unknown(what, 1));
        if (refusal != FITS) {
            return refuse(refusal);
        }
        return what == 0 ? now.loudestAt(hour) : now.noiseTogether(hour);
    }

    public int nearest(int what) {
        int refusal = unknown(what, 1);
        if (refusal != FITS) {
            return refuse(refusal);
        }
        int shore = now.nearestShore();
        return what == 0 || shore == NONE ? shore : now.distanceTo(shore);
    }

    public int shared(int what) {
        int sharers = Math.max(1, now.shores);
        switch (what) {
            case 0: return now.joyTogether() / sharers;
            case 1: return now.joyTogether() % sharers;
            case 2: return now.joylessBits();
            default: return refuse(OTHER);
        }
    }

    public int loudHour(int what) {
        switch (what) {
            case 0: return now.loudestHour();
            case 1: return now.calmBits();
            default: return refuse(OTHER);
        }
    }

    public long mean(int part) {
        int refusal = unknown(part, 1);
        if (refusal != FITS) {
            return LONG_REFUSAL - refuse(refusal);
        }
        return inLowestTerms(now.placesTogether(), Math.max(1, now.shores), part);
    }

    public int gap(int what) {
        int refusal = unknown(what, 1);
        if (refusal != FITS) {
            return refuse(refusal);
        }
        int place = now.widestGap();
        return what == 1 || place == NONE ? place : now.gapFrom(place);
    }

    // ---- In mind ----

    public int behind(int n, int what) {
        int refusal = refusalInMind(n, what);
        if (refusal != FITS) {
            return refuse(refusal);
        }
        Bay then = mind.after(n);
        return what == 0 ? then.islePlace : then.owner();
    }

    public int shoreBehind(int shore, int n, int what) {
        int refusal = refusalOf(shore, n, what);
        if (refusal != FITS) {
            return refuse(refusal);
        }
        Bay then = mind.after(n);
        return what == 0 ? then.joy[shore] : then.powder[shore];
    }

    public int first(int shore) {
        int refusal = nobody(shore, now.shores);
        return refusal != FITS ? refuse(refusal) : mind.firstHours(shore);
    }

    public int whoFirst(int what) {
        switch (what) {
            case 0: return mind.firstOwner();
            case 1: return mind.neverBits();
            case 2: return mind.stillBehind();
            default: return refuse(OTHER);
        }
    }

    public int most(int n, int what) {
        int refusal = refusalInMind(n, what);
        if (refusal != FITS) {
            return refuse(refusal);
        }
        int shore = mind.oftenestOwner(n);
        if (what == 0) {
            return shore;
        }
        return shore == NONE ? 0 : mind.timesHad(shore, n);
    }

    public int farthest(int n, int what) {
        int refusal = refusalInMind(n, what);
        if (refusal != FITS) {
            return refuse(refusal);
        }
        return what == 0 ? mind.leastPlace(n) : mind.greatestPlace(n);
    }

    public int spent(int n) {
        int refusal = outside(n, 0, MOST_HOURS);
        if (refusal != FITS) {
            return refuse(refusal);
        }
        return now.powderTogether() - mind.after(n).powderTogether();
    }

    public int ring(int n) {
        int refusal = outside(n, 0, MOST_HOURS);
        return refusal != FITS ? refuse(refusal) : mind.ringBehind(n);
    }

    // ---- What would be ----

    public int hush(int shore, int n) {
        int refusal = refusalOf(shore, n);
        return refusal != FITS ? refuse(refusal) : mind.bestHush(shore, n);
    }

    public int fewest(int shore, int n) {
        int refusal = refusalOf(shore, n);
        return refusal != FITS ? refuse(refusal) : mind.fewestHushed(shore, n);
    }

    public int swap(int shore, int n) {
        int refusal = refusalOf(shore, n);
        return refusal != FITS ? refuse(refusal) : mind.bestSwap(shore, n);
    }

    public int fromWhere(int shore, int n, int what) {
        int refusal = refusalOf(shore, n, what);
        if (refusal != FITS) {
            return refuse(refusal);
        }
        return what == 0 ? mind.countStarts(shore, n) : mind.leastStart(shore, n);
    }

    public int powderWanted(int shore, int n, int what) {
        int refusal = refusalOf(shore, n, what);
        if (refusal != FITS) {
            return refuse(refusal);
        }
        int v = mind.bestPowder(shore, n);
        return what == 0 ? v : mind.timesWithPowder(shore, v, n);
    }

    public int newShore(int kind, int n, int what) {
        int refusal = firstOf(unknown(kind, LAST_KIND),
            firstOf(unknown(what, 1), outside(n, 0, MOST_HOURS)));
        if (refusal != FITS) {
            return refuse(refusal);
        }
        int place = mind.bestNewPlace(kind, n);
        return what == 0 || place == NONE ? place : mind.timesFrom(kind, place, n);
    }

    public int treaty(int one, int other, int what) {
        int refusal = firstOf(nobody(one, now.shores), nobody(other, now.shores));
        refusal = firstOf(refusal, one == other ? NOBODY : unknown(what, 1));
        if (refusal != FITS) {
            return refuse(refusal);
        }
        mind.weighTreaty(one, other);
        if (what == 1) {
            return mind.isSettled(0) ? 1 : 0;
        }
        return mind.firstSettled();
    }

    public long thunder(int shore, int n, int t, int part) {
        int tooLow = firstOf(below(n, 0), below(t, 2));
        int tooHigh = firstOf(above(n, 7), above(t, 20));
        int refusal = firstOf(firstOf(nobody(shore, now.shores), tooLow),
            firstOf(tooHigh, unknown(part, 1)));
        if (refusal != FITS) {
            return LONG_REFUSAL - refuse(refusal);
        }
        long all = 1;
        for (int hour = 0; hour < n; hour++) {
            all *= t;
        }
        return inLowestTerms(mind.thunderWays(shore, n, t), all, part);
    }

    public int lots(int n, int z, int what) {
        int refusal = firstOf(outside(n, 1, 20), unknown(what, 1));
        return refusal != FITS ? refuse(refusal) : mind.drawLots(n, z, what);
    }

    // ---- The row ----

    public int row(int v) {
        int refusal = firstOf(outside(v, 0, MOST_TOLD_NUMBER),
            toldCount >= MOST_TOLD ? ROOM : FITS);
        if (refusal != FITS) {
            return refuse(refusal);
        }
        told[toldCount] = v;
        toldCount++;
        return toldCount;
    }

    public int judge() {
        int answer = mind.firstWrong(told, toldCount);
        toldCount = 0;
        return answer;
    }

    public int clear() {
        int before = toldCount;
        toldCount = 0;
        return before;
    }

    public int which(int shore, int what) {
        int refusal = firstOf(nobody(shore, now.shores), unknown(what, 2));
        if (refusal != FITS) {
            return refuse(refusal);
        }
        switch (what) {
            case 0: return mind.guessBits(shore, what, LAST_KIND, told, toldCount);
            case 1: return mind.guessBits(shore, what, LAST_FIGURE, told, toldCount);
            default: return mind.guessBits(shore, what, FASTEST, told, toldCount);
        }
    }

    // ---- Fractions ----

    private static long inLowestTerms(long above, long below, int part) {
        long divisor = commonDivisor(above, below);
        if (divisor < 1) {
            return NONE;
        }
        return (part == 0 ? above : below) / divisor;
    }

    /** Euclid's way takes fewer steps than a long has bits twice over. */
    private static long commonDivisor(long one, long other) {
        for (int step = 0; step < 128 && other != 0; step++) {
            long rest = one % other;
            one = other;
            other = rest;
        }
        return one;
    }

    /** All that there is of I, in the document: SHORES, THE ISLE, HOUR and DAY. */
    private static final class Bay {
        private final int[] kind = new int[MOST_SHORES];
        private final int[] figure = new int[MOST_SHORES];
        private final int[] place = new int[MOST_SHORES];
        private final int[] powder = new int[MOST_SHORES];
        private final int[] joy = new int[MOST_SHORES];
        private int quiet;
        private int shores;
        private int islePlace = 15;
        private int pace = 1;
        private int hour = 8;
        private int day;

        private void become(Bay other) {
            System.arraycopy(other.kind, 0, kind, 0, MOST_SHORES);
            System.arraycopy(other.figure, 0, figure, 0, MOST_SHORES);
            System.arraycopy(other.place, 0, place, 0, MOST_SHORES);
            System.arraycopy(other.powder, 0, powder, 0, MOST_SHORES);
            System.arraycopy(other.joy, 0, joy, 0, MOST_SHORES);
            quiet = other.quiet;
            shores = other.shores;
            islePlace = other.islePlace;
            pace = other.pace;
            hour = other.hour;
            day = other.day;
        }

        // What calls and letters may not do, told alike for both.

        private int refusalOfShore(int newKind, int newFigure, int newPlace) {
            if (newKind < 0 || newKind > LAST_KIND) {
                return OTHER;
            }
            if (newFigure < 0) {
                return BELOW;
            }
            if (newFigure > LAST_FIGURE || shores >= MOST_SHORES) {
                return ROOM;
            }
            if (newPlace < 0 || newPlace > LAST_PLACE) {
                return NOBODY;
            }
            return shoreAt(newPlace) != NONE ? STATE : FITS;
        }

        private int refusalOfPowder(int shore, int v) {
            return firstOf(nobody(shore, shores), outside(v, 0, MOST_POWDER));
        }

        private int refusalOfIsle(int what, int v) {
            int range = what == 0 ? outside(v, 0, LAST_PLACE) : outside(v, 1, FASTEST);
            return firstOf(unknown(what, 1), range);
        }

        private int refusalOfHours(int n) {
            int range = outside(n, 1, MOST_HOURS);
            if (range != FITS) {
                return range;
            }
            return day + (hour + n) / (LAST_HOUR + 1) > LAST_DAY ? ROOM : FITS;
        }

        private void add(int newKind, int newFigure, int newPlace) {
            if (shores < MOST_SHORES) {
                kind[shores] = newKind;
                figure[shores] = newFigure;
                place[shores] = newPlace;
                powder[shores] = 9;
                joy[shores] = 0;
                shores++;
            }
        }

        private void setPowder(int shore, int v) {
            powder[shore] = v;
        }

        private void turnQuiet(int shore) {
            quiet ^= 1 << shore;
        }

        private void setQuiet(int shore, boolean isSo) {
            quiet = isSo ? quiet | 1 << shore : quiet & ~(1 << shore);
        }

        private void setIsle(int what, int v) {
            if (what == 0) {
                islePlace = v;
            } else {
                pace = v;
            }
        }

        // Who is where.

        private int shoreAt(int somePlace) {
            for (int shore = 0; shore < shores; shore++) {
                if (place[shore] == somePlace) {
                    return shore;
                }
            }
            return NONE;
        }

        private int owner() {
            return shoreAt(islePlace);
        }

        private boolean hasIsle(int shore) {
            return place[shore] == islePlace;
        }

        private boolean isQuiet(int shore) {
            return (quiet >> shore & 1) == 1;
        }

        private int distanceTo(int shore) {
            return Math.abs(place[shore] - islePlace);
        }

        private int nearestShore() {
            int nearest = NONE;
            for (int shore = 0; shore < shores; shore++) {
                if (nearest == NONE || distanceTo(shore) < distanceTo(nearest)) {
                    nearest = shore;
                }
            }
            return nearest;
        }

        private int placesTogether() {
            int sum = 0;
            for (int shore = 0; shore < shores; shore++) {
                sum += place[shore];
            }
            return sum;
        }

        /** How far it is from a SHORE at a PLACE to the next one; 0 if it is not between two. */
        private int gapFrom(int start) {
            if (shoreAt(start) == NONE) {
                return 0;
            }
            for (int next = start + 1; next <= LAST_PLACE; next++) {
                if (shoreAt(next) != NONE) {
                    return next - start;
                }
            }
            return 0;
        }

        private int widestGap() {
            int widest = NONE;
            int width = 0;
            for (int start = 0; start <= LAST_PLACE; start++) {
                if (gapFrom(start) > width) {
                    widest = start;
                    width = gapFrom(start);
                }
            }
            return widest;
        }

        private int joyTogether() {
            int sum = 0;
            for (int shore = 0; shore < shores; shore++) {
                sum += joy[shore];
            }
            return sum;
        }

        private int joylessBits() {
            int bits = 0;
            for (int shore = 0; shore < shores; shore++) {
                if (joy[shore] == 0) {
                    bits |= 1 << shore;
                }
            }
            return bits;
        }

        private int powderTogether() {
            int sum = 0;
            for (int shore = 0; shore < shores; shore++) {
                sum += powder[shore];
            }
            return sum;
        }

        // How loud it is.

        private int loudOf(int shore, int atHour) {
            int own = figure[shore];
            int drum = atHour % 2 == 0 ? own + 3 : 0;
            boolean sings = atHour >= 9 && atHour <= 11 || atHour >= 18 && atHour <= 20;
            switch (kind[shore]) {
                case 0: return own;
                case 1: return drum;
                case 2: return 4;
                case 3: return sings ? 2 * drum : drum;
                case 4: return atHour == own || atHour == own + 12 ? 30 : 0;
                default: return 1;
            }
        }

        private int costOf(int shore) {
            switch (kind[shore]) {
                case 1:
                case 3: return figure[shore] >= 7 ? 1 : 0;
                case 4: return 5;
                default: return 0;
            }
        }

        private int noiseOf(int shore, int atHour) {
            boolean silent = isQuiet(shore) || hasIsle(shore) || powder[shore] < costOf(shore);
            return silent ? 0 : loudOf(shore, atHour);
        }

        private int noiseTogether(int atHour) {
            int sum = 0;
            for (int shore = 0; shore < shores; shore++) {
                sum += noiseOf(shore, atHour);
            }
            return sum;
        }

        private int loudestAt(int atHour) {
            int loudest = NONE;
            int most = 0;
            for (int shore = 0; shore < shores; shore++) {
                int noise = noiseOf(shore, atHour);
                boolean asLoud = loudest != NONE && noise == most;
                if (noise > most || asLoud && distanceTo(shore) < distanceTo(loudest)) {
                    loudest = shore;
                    most = noise;
                }
            }
            return loudest;
        }

        private int loudestHour() {
            int loudest = 0;
            for (int at = 1; at <= LAST_HOUR; at++) {
                if (noiseTogether(at) > noiseTogether(loudest)) {
                    loudest = at;
                }
            }
            return loudest;
        }

        private int calmBits() {
            int bits = 0;
            for (int at = 0; at <= LAST_HOUR; at++) {
                if (noiseTogether(at) == 0) {
                    bits |= 1 << at;
                }
            }
            return bits;
        }

        // How an HOUR goes by.

        private void passHours(int n) {
            for (int gone = 0; gone < n; gone++) {
                passHour(false);
            }
        }

        /** POWDER goes before THE ISLE drifts, since who sounds hangs on where it was. */
        private void passHour(boolean thunders) {
            int loudest = loudestAt(hour);
            spendPowder();
            if (loudest != NONE) {
                islePlace = thunders ? placeAwayFrom(loudest) : placeTowards(loudest);
            }
            hour++;
            if (hour > LAST_HOUR) {
                hour = 0;
                day++;
            }
            int owner = owner();
            if (owner != NONE) {
                joy[owner] = Math.min(MOST_JOY, joy[owner] + 1);
            }
        }

        private void spendPowder() {
            for (int shore = 0; shore < shores; shore++) {
                if (noiseOf(shore, hour) > 0) {
                    powder[shore] -= costOf(shore);
                }
            }
        }

        private int placeTowards(int shore) {
            int way = place[shore] - islePlace;
            return islePlace + Math.max(-pace, Math.min(pace, way));
        }

        private int placeAwayFrom(int shore) {
            int away = place[shore] < islePlace ? pace : -pace;
            return Math.max(0, Math.min(LAST_PLACE, islePlace + away));
        }
    }

    /** The bays before the last changes, 8 at most: each new one takes the place of the oldest. */
    private static final class Past {
        private static final int DEPTH = 8;

        private final Bay[] bays = new Bay[DEPTH];
        private int latest;
        private int count;

        private Past() {
            for (int slot = 0; slot < DEPTH; slot++) {
                bays[slot] = new Bay();
            }
        }

        private void keep(Bay bay) {
            latest = (latest + 1) % DEPTH;
            bays[latest].become(bay);
            count = Math.min(DEPTH, count + 1);
        }

        private void takeBack(Bay bay) {
            bay.become(bays[latest]);
            latest = (latest + DEPTH - 1) % DEPTH;
            count--;
        }
    }

    /** A BAY told in letters. */
    private static final class Letters {
        private static final int MOST = 96;
        private static final int LACKING = -1;

        private final int[] signs = new int[MOST];
        private int size;

        private boolean isFull() {
            return size >= MOST;
        }

        private int write(int letter) {
            if (!isFull()) {
                signs[size] = letter;
                size++;
            }
            return size;
        }

        private int letterAt(int at) {
            return at >= 0 && at < size ? signs[at] : LACKING;
        }

        /** How many digits stand behind a STATEMENT's first letter; 0 if it is none. */
        private static int digitsBehind(int letter) {
            switch (letter) {
                case 's': return 4;
                case 'p': return 3;
                case 'q': return 1;
                case 'i': return 2;
                case 'v': return 1;
                case 'h': return 2;
                default: return 0;
            }
        }

        private int lengthAt(int at) {
            return digitsBehind(letterAt(at)) + 2;
        }

        /** FAULT of kind 1. What stands behind the end fits nowhere, so a lack is found as one. */
        private int fault() {
            int at = 0;
            do {
                int digits = digitsBehind(letterAt(at));
                if (digits == 0) {
                    return -1000 - at;
                }
                for (int next = at + 1; next <= at + digits; next++) {
                    if (letterAt(next) < '0' || letterAt(next) > '9') {
                        return -1000 - next;
                    }
                }
                at += digits + 1;
                if (letterAt(at) != ';') {
                    return -1000 - at;
                }
                at++;
            } while (at < size);
            return FITS;
        }

        private int digitAt(int at) {
            return letterAt(at) - '0';
        }

        private int numberAt(int at) {
            return 10 * digitAt(at) + digitAt(at + 1);
        }

        /** A STATEMENT is not as it must be just where the call that does the same is refused. */
        private int refusalOfStatement(int at, Bay bay) {
            int digit = digitAt(at + 1);
            switch (letterAt(at)) {
                case 's': return bay.refusalOfShore(digit, digitAt(at + 2), numberAt(at + 3));
                case 'p': return bay.refusalOfPowder(digit, numberAt(at + 2));
                case 'q': return nobody(digit, bay.shores);
                case 'i': return bay.refusalOfIsle(0, numberAt(at + 1));
                case 'v': return bay.refusalOfIsle(1, digit);
                default: return bay.refusalOfHours(numberAt(at + 1));
            }
        }

        private void carryOut(int at, Bay bay) {
            int digit = digitAt(at + 1);
            switch (letterAt(at)) {
                case 's': bay.add(digit, digitAt(at + 2), numberAt(at + 3)); break;
                case 'p': bay.setPowder(digit, numberAt(at + 2)); break;
                case 'q': bay.turnQuiet(digit); break;
                case 'i': bay.setIsle(0, numberAt(at + 1)); break;
                case 'v': bay.setIsle(1, digit); break;
                default: bay.passHours(numberAt(at + 1)); break;
            }
        }
    }

    /** What is asked in mind: each question goes through hours of a second bay, and now stays. */
    private static final class Mind {
        private static final int TREATY_HOURS = 12;

        private final Bay now = new Bay();
        private final Bay thought = new Bay();
        private final int[] hadByOne = new int[4];
        private final int[] hadByOther = new int[4];

        private Bay asNow() {
            thought.become(now);
            return thought;
        }

        private Bay after(int n) {
            Bay bay = asNow();
            bay.passHours(n);
            return bay;
        }

        /** How often, as the thought bay goes on, a SHORE HAS THE ISLE behind 1 .. n hours. */
        private int timesFromHere(int shore, int n) {
            int times = 0;
            for (int gone = 0; gone < n; gone++) {
                thought.passHour(false);
                if (thought.hasIsle(shore)) {
                    times++;
                }
            }
            return times;
        }

        private int timesHad(int shore, int n) {
            asNow();
            return timesFromHere(shore, n);
        }

        private int firstHours(int shore) {
            Bay bay = asNow();
            for (int gone = 0; gone <= MOST_HOURS; gone++) {
                if (bay.hasIsle(shore)) {
                    return gone;
                }
                bay.passHour(false);
            }
            return NONE;
        }

        private int firstOwner() {
            Bay bay = asNow();
            for (int gone = 0; gone <= MOST_HOURS; gone++) {
                if (bay.owner() != NONE) {
                    return bay.owner();
                }
                bay.passHour(false);
            }
            return NONE;
        }

        private int neverBits() {
            int bits = 0;
            for (int shore = 0; shore < now.shores; shore++) {
                if (firstHours(shore) == NONE) {
                    bits |= 1 << shore;
                }
            }
            return bits;
        }

        private int stillBehind() {
            Bay bay = asNow();
            for (int gone = 0; gone <= MOST_HOURS; gone++) {
                int before = bay.islePlace;
                bay.passHour(false);
                if (bay.islePlace == before) {
                    return gone;
                }
            }
            return NONE;
        }

        private int oftenestOwner(int n) {
            int oftenest = NONE;
            int most = 0;
            for (int shore = 0; shore < now.shores; shore++) {
                int times = timesHad(shore, n);
                if (times > most) {
                    oftenest = shore;
                    most = times;
                }
            }
            return oftenest;
        }

        private int leastPlace(int n) {
            Bay bay = asNow();
            int least = bay.islePlace;
            for (int gone = 0; gone < n; gone++) {
                bay.passHour(false);
                least = Math.min(least, bay.islePlace);
            }
            return least;
        }

        private int greatestPlace(int n) {
            Bay bay = asNow();
            int greatest = bay.islePlace;
            for (int gone = 0; gone < n; gone++) {
                bay.passHour(false);
                greatest = Math.max(greatest, bay.islePlace);
            }
            return greatest;
        }

        private int ringBehind(int n) {
            Bay bay = after(n);
            int place = bay.islePlace;
            int hour = bay.hour;
            for (int gone = 1; gone <= 48; gone++) {
                bay.passHour(false);
                if (bay.islePlace == place && bay.hour == hour) {
                    return gone;
                }
            }
            return NONE;
        }

        private int timesWithHushed(int shore, int bits, int n) {
            asNow().quiet |= bits;
            return timesFromHere(shore, n);
        }

        private int bestHush(int shore, int n) {
            int best = NONE;
            int most = timesHad(shore, n);
            for (int hushed = 0; hushed < now.shores; hushed++) {
                int times = hushed == shore ? 0 : timesWithHushed(shore, 1 << hushed, n);
                if (times > most) {
                    best = hushed;
                    most = times;
                }
            }
            return best;
        }

        private int fewestHushed(int shore, int n) {
            int fewest = NONE;
            int size = MOST_SHORES;
            for (int bits = 0; bits < 1 << now.shores; bits++) {
                boolean canBe = (bits >> shore & 1) == 0 && Integer.bitCount(bits) < size;
                if (canBe && timesWithHushed(shore, bits, n) > 0) {
                    fewest = bits;
                    size = Integer.bitCount(bits);
                }
            }
            return fewest;
        }

        private int bestSwap(int shore, int n) {
            int best = NONE;
            int most = timesHad(shore, n);
            for (int one = 0; one < now.shores; one++) {
                for (int other = one + 1; other < now.shores; other++) {
                    Bay bay = asNow();
                    bay.place[one] = now.place[other];
                    bay.place[other] = now.place[one];
                    int times = timesFromHere(shore, n);
                    if (times > most) {
                        best = 10 * one + other;
                        most = times;
                    }
                }
            }
            return best;
        }

        private boolean leadsTo(int shore, int n, int start) {
            Bay bay = asNow();
            bay.islePlace = start;
            bay.passHours(n);
            return bay.hasIsle(shore);
        }

        private int countStarts(int shore, int n) {
            int starts = 0;
            for (int start = 0; start <= LAST_PLACE; start++) {
                if (leadsTo(shore, n, start)) {
                    starts++;
                }
            }
            return starts;
        }

        private int leastStart(int shore, int n) {
            for (int start = 0; start <= LAST_PLACE; start++) {
                if (leadsTo(shore, n, start)) {
                    return start;
                }
            }
            return NONE;
        }

        private int timesWithPowder(int shore, int v, int n) {
            asNow().setPowder(shore, v);
            return timesFromHere(shore, n);
        }

        /** POWDER that is not enough to sound once more than less of it does changes nothing. */
        private int bestPowder(int shore, int n) {
            int step = now.costOf(shore) > 0 ? now.costOf(shore) : MOST_POWDER + 1;
            int best = 0;
            int most = 0;
            for (int v = 0; v <= MOST_POWDER; v += step) {
                int times = timesWithPowder(shore, v, n);
                if (times > most) {
                    best = v;
                    most = times;
                }
            }
            return best;
        }

        private int timesFrom(int kind, int place, int n) {
            Bay bay = asNow();
            bay.add(kind, 5, place);
            return timesFromHere(bay.shores - 1, n);
        }

        private int bestNewPlace(int kind, int n) {
            int best = NONE;
            int most = -1;
            for (int place = 0; place <= LAST_PLACE && now.shores < MOST_SHORES; place++) {
                int times = now.shoreAt(place) == NONE ? timesFrom(kind, place, n) : -1;
                if (times > most) {
                    best = place;
                    most = times;
                }
            }
            return best;
        }

        /** By which KINDS, FIGURES or PACES, up to the last one, all of the ROW is so. */
        private int guessBits(int shore, int what, int last, int[] told, int count) {
            int bits = 0;
            for (int guess = what == 2 ? 1 : 0; guess <= last; guess++) {
                Bay bay = asNow();
                switch (what) {
                    case 0: bay.kind[shore] = guess; break;
                    case 1: bay.figure[shore] = guess; break;
                    default: bay.pace = guess; break;
                }
                if (goesAsTold(told, count)) {
                    bits |= 1 << guess;
                }
            }
            return bits;
        }

        private boolean goesAsTold(int[] told, int count) {
            Bay bay = thought;
            for (int gone = 0; gone < count; gone++) {
                if (told[gone] != bay.islePlace) {
                    return false;
                }
                bay.passHour(false);
            }
            return true;
        }

        private int firstWrong(int[] told, int count) {
            Bay bay = asNow();
            for (int gone = 0; gone < count; gone++) {
                int loudest = bay.loudestAt(bay.hour);
                if (told[gone] != (loudest == NONE ? 9 : loudest)) {
                    return gone;
                }
                bay.passHour(false);
            }
            return NONE;
        }

        /** A pair of choices is 2 times the first's and the other's, by which the rows are read. */
        private void weighTreaty(int one, int other) {
            for (int pair = 0; pair < 4; pair++) {
                hadByOne[pair] = timesByTreaty(one, other, pair, one);
                hadByOther[pair] = timesByTreaty(one, other, pair, other);
            }
        }

        private int timesByTreaty(int one, int other, int pair, int whose) {
            Bay bay = asNow();
            bay.setQuiet(one, pair / 2 == 0);
            bay.setQuiet(other, pair % 2 == 0);
            return timesFromHere(whose, TREATY_HOURS);
        }

        private boolean isSettled(int pair) {
            return hadByOne[pair] >= hadByOne[pair ^ 2] && hadByOther[pair] >= hadByOther[pair ^ 1];
        }

        private int firstSettled() {
            for (int pair = 0; pair < 4; pair++) {
                if (isSettled(pair)) {
                    return 10 * (pair / 2) + pair % 2;
                }
            }
            return NONE;
        }

        /** Of t to the n ways for n hours to go, those behind which a SHORE HAS THE ISLE. */
        private long thunderWays(int shore, int n, int t) {
            long ways = 0;
            for (int bits = 0; bits < 1 << n; bits++) {
                Bay bay = asNow();
                long alike = 1;
                for (int gone = 0; gone < n; gone++) {
                    boolean thunders = (bits >> gone & 1) == 1;
                    alike *= thunders ? 1 : t - 1;
                    bay.passHour(thunders);
                }
                ways += bay.hasIsle(shore) ? alike : 0;
            }
            return ways;
        }

        private int drawLots(int n, int z, int what) {
            int seed = z;
            int joy = 0;
            int ends = 0;
            for (int lot = 0; lot < n; lot++) {
                seed = layOut(seed);
                thought.passHours(24);
                joy += thought.joyTogether() - now.joyTogether();
                ends += thought.owner() != NONE ? 1 : 0;
            }
            return what == 0 ? joy : ends;
        }

        /** One bay by lot; answers the seed behind its DRAWS. */
        private int layOut(int z) {
            Bay bay = asNow();
            int seed = nextSeed(z);
            bay.islePlace = drawn(seed, LAST_PLACE + 1);
            for (int shore = 0; shore < bay.shores; shore++) {
                seed = nextSeed(seed);
                bay.setQuiet(shore, drawn(seed, 4) == 0);
            }
            return seed;
        }

        private static int nextSeed(int seed) {
            return seed * 1103515245 + 12345;
        }

        private static int drawn(int seed, int n) {
            return n < 1 ? 0 : ((seed & 0x7fffffff) >> 16) % n;
        }
    }
}
