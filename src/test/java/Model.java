import java.util.HashMap;
import java.util.Map;
import java.util.Random;

/** A road written apart from the class, as plainly as it can be: minute by minute, set by set. */
final class Model {
    static final int NEVER = 12;

    int[] legs = new int[0];
    int home = 400;
    int pace = 80;
    int sight = 2;
    int limit = 30;
    char[] kinds = new char[0];
    int[] runs = new int[0];
    int[][] weights = new int[0][];
    private final Map<Long, Long> known = new HashMap<>();

    static Model random(Random lot, int mostStops, int lines, int mostRun) {
        Model m = new Model();
        m.legs = new int[lot.nextInt(mostStops)];
        int longest = lot.nextBoolean() ? 999 : 300;
        for (int i = 0; i < m.legs.length; i++) {
            m.legs[i] = 1 + lot.nextInt(longest);
        }
        m.home = lot.nextInt(1000);
        m.pace = 20 + lot.nextInt(181);
        m.sight = lot.nextInt(10);
        m.limit = 1 + lot.nextInt(lot.nextBoolean() ? 60 : 12);
        m.kinds = new char[lines];
        m.runs = new int[lines];
        m.weights = new int[lines][];
        for (int i = 0; i < lines; i++) {
            m.kinds[i] = "bnert".charAt(lot.nextInt(5));
            m.runs[i] = 1 + lot.nextInt(mostRun);
            m.weights[i] = someWeights(lot);
        }
        return m;
    }

    private static int[] someWeights(Random lot) {
        int[] w = new int[NEVER + 1];
        int some = 1 + lot.nextInt(4);
        for (int t = 0; t <= NEVER; t++) {
            w[t] = lot.nextInt(4) < some ? lot.nextInt(10) : 0;
        }
        if (lot.nextInt(3) == 0) {
            w[NEVER] = 0;
        }
        w[lot.nextInt(NEVER)] = 1 + lot.nextInt(9);
        return w;
    }

    /** The same road told to a new object, statement by statement. */
    WaitOrWalkOn object() {
        WaitOrWalkOn x = new WaitOrWalkOn();
        Due.is("home", Due.tell(x, "h" + home + ";"), 1);
        Due.is("pace", Due.tell(x, "p" + pace + ";"), 1);
        Due.is("sight", Due.tell(x, "e" + sight + ";"), 1);
        Due.is("limit", Due.tell(x, "m" + limit + ";"), 1);
        for (int leg : legs) {
            Due.is("leg", Due.tell(x, "s" + leg + ";"), 1);
        }
        for (int line = 0; line < runs.length; line++) {
            StringBuilder text = new StringBuilder("l").append(kinds[line]).append(runs[line]);
            text.append(weights[line][NEVER]);
            for (int t = 0; t < NEVER; t++) {
                text.append(weights[line][t]);
            }
            Due.is("line", Due.tell(x, text.append(";").toString()), 1);
        }
        return x;
    }

    @Override
    public String toString() {
        StringBuilder s = new StringBuilder();
        for (int leg : legs) {
            s.append("s").append(leg).append(";");
        }
        s.append("h").append(home).append(";p").append(pace).append(";e").append(sight).append(";m").append(limit);
        for (int line = 0; line < runs.length; line++) {
            s.append(";l").append(kinds[line]).append(runs[line]).append(weights[line][NEVER]);
            for (int t = 0; t < NEVER; t++) {
                s.append(weights[line][t]);
            }
        }
        return s.append("; ").toString();
    }

    int last() {
        return legs.length;
    }

    static int minutes(int yards, int atPace) {
        int minutes = 0;
        while (minutes * atPace < yards) {
            minutes++;
        }
        return minutes;
    }

    /** Minutes of walking home from a stop. */
    int walk(int stop) {
        int sum = minutes(home, pace);
        for (int k = stop; k < last(); k++) {
            sum += minutes(legs[k], pace);
        }
        return sum;
    }

    int ride(int line, int stop) {
        int sum = 0;
        for (int k = 0; k < stop; k++) {
            switch (kinds[line]) {
                case 'n' -> sum += runs[line] + 1;
                case 'r' -> sum += runs[line] + (k == 0 ? 6 : 1);
                case 't' -> sum += runs[line] - runs[line] / 2;
                default -> sum += runs[line];
            }
        }
        return sum;
    }

    boolean halts(int line, int stop) {
        return kinds[line] == 'b' || kinds[line] == 'n' || kinds[line] == 'r' || stop % 2 == 0 || stop == last();
    }

    boolean isThere(int line, int stop, int t, int minute) {
        return t < NEVER && t + ride(line, stop) == minute;
    }

    int total(int line) {
        int sum = 0;
        for (int w : weights[line]) {
            sum += w;
        }
        return sum;
    }

    /** Home at, minute by minute. */
    int home(int line, int kind, int figure, int t) {
        int own = kind == 4 ? 2 * pace : pace;
        int stop = 0;
        int came = 0;
        int minute = 0;
        while (stop < last()) {
            if (halts(line, stop) && isThere(line, stop, t, minute)) {
                return minute + ride(line, last()) - ride(line, stop) + minutes(home, own);
            }
            if (stays(line, kind, figure, t, stop, came, minute)) {
                minute++;
            } else {
                minute += minutes(legs[stop], own);
                stop++;
                came = minute;
            }
        }
        return minute + minutes(home, own);
    }

    private boolean stays(int line, int kind, int figure, int t, int stop, int came, int minute) {
        boolean sees = false;
        for (int m = minute; m <= minute + sight; m++) {
            sees |= halts(line, stop) && isThere(line, stop, t, m);
        }
        return switch (kind) {
            case 0 -> stop == 0 && minute < limit;
            case 2 -> sees;
            case 3 -> stop == 0 && minute < figure || sees;
            case 5 -> minute - came < (stop == 0 ? 2 * figure : figure) || sees;
            default -> false;
        };
    }

    long homeSum(int line, int kind, int figure) {
        long sum = 0;
        for (int t = 0; t <= NEVER; t++) {
            sum += (long) weights[line][t] * home(line, kind, figure, t);
        }
        return sum;
    }

    /** The set of t for which the line has not been at a stop ahead of a minute. */
    int possible(int line, int stop, int minute) {
        int set = 1 << NEVER;
        for (int t = 0; t < NEVER; t++) {
            if (t + ride(line, stop) >= minute) {
                set |= 1 << t;
            }
        }
        return set;
    }

    long weight(int line, int set) {
        long sum = 0;
        for (int t = 0; t <= NEVER; t++) {
            sum += (set >> t & 1) * weights[line][t];
        }
        return sum;
    }

    /** The least sum of one who is at a stop in a minute and knows which t are possible; his choice is kept apart. */
    long best(int line, int stop, int minute, int set) {
        if (stop == last() || minute > 60) {
            return weight(line, set) * (minute + walk(stop));
        }
        long key = ((line * 8L + stop) * 64 + minute) * 8192 + set;
        Long old = known.get(key);
        if (old != null) {
            return old;
        }
        int now = hereNow(line, stop, minute, set);
        int t = Integer.numberOfTrailingZeros(now);
        long sum = weight(line, now)
            * (halts(line, stop) ? t + ride(line, last()) + walk(last()) : minute + walk(stop));
        int left = set & ~now;
        if (minute == 60) {
            sum += weight(line, left) * (minute + walk(stop));
        } else {
            sum += Math.min(best(line, stop, minute + 1, left), bestWalk(line, stop, minute, left));
        }
        known.put(key, sum);
        return sum;
    }

    int hereNow(int line, int stop, int minute, int set) {
        int now = 0;
        for (int t = 0; t < NEVER; t++) {
            if ((set >> t & 1) == 1 && isThere(line, stop, t, minute)) {
                now |= 1 << t;
            }
        }
        return now;
    }

    long bestWalk(int line, int stop, int minute, int left) {
        int comes = minute + minutes(legs[stop], pace);
        int unpassed = left & possible(line, stop + 1, comes);
        return weight(line, left & ~unpassed) * (minute + walk(stop)) + best(line, stop + 1, comes, unpassed);
    }

    int choice(int line, int stop, int minute) {
        int set = possible(line, stop, minute);
        if (weight(line, set) == 0) {
            return -9;
        }
        if (stop == last() || minute == 60) {
            return 1;
        }
        int left = set & ~hereNow(line, stop, minute, set);
        return bestWalk(line, stop, minute, left) < best(line, stop, minute + 1, left) ? 1 : 0;
    }

    /**
     * The least sum over all ways to say beforehand how long to wait at each stop: all that one sees on the way is
     * that it has not come, so nothing better can be done.
     */
    long bestSchedule(int line, int stop, int minute, int mostWait) {
        return schedules(line, stop, minute, mostWait, stop, new int[legs.length]);
    }

    private long schedules(int line, int stop, int minute, int mostWait, int next, int[] waits) {
        if (next == last()) {
            return scheduleSum(line, stop, minute, waits);
        }
        long least = Long.MAX_VALUE;
        for (int wait = 0; wait <= mostWait; wait++) {
            waits[next] = wait;
            least = Math.min(least, schedules(line, stop, minute, mostWait, next + 1, waits));
        }
        return least;
    }

    private long scheduleSum(int line, int stop, int minute, int[] waits) {
        long sum = 0;
        for (int t = 0; t <= NEVER; t++) {
            if (weights[line][t] > 0 && (possible(line, stop, minute) >> t & 1) == 1) {
                sum += (long) weights[line][t] * scheduleHome(line, stop, minute, waits, t);
            }
        }
        return sum;
    }

    private int scheduleHome(int line, int stop, int minute, int[] waits, int t) {
        int m = minute;
        for (int k = stop; k < last(); k++) {
            int at = t == NEVER ? Integer.MAX_VALUE : t + ride(line, k);
            if (m > 60 || at < m) {
                return m + walk(k);
            }
            int leaves = Math.min(60, m + waits[k]);
            if (at <= leaves) {
                return halts(line, k) ? t + ride(line, last()) + walk(last()) : at + walk(k);
            }
            m = leaves + minutes(legs[k], pace);
        }
        return m + walk(last());
    }

    /** Two lines, the second let go by ahead of a minute; by minutes, as one stands there. */
    long pairSum(int line, int other, int letUntil) {
        long sum = 0;
        for (int t = 0; t <= NEVER; t++) {
            for (int u = 0; u <= NEVER; u++) {
                sum += (long) weights[line][t] * weights[other][u] * pairHome(line, t, other, u, letUntil);
            }
        }
        return sum;
    }

    private int pairHome(int line, int t, int other, int u, int letUntil) {
        if (last() == 0) {
            return walk(0);
        }
        for (int minute = 0; minute < NEVER; minute++) {
            boolean first = t == minute;
            boolean second = u == minute && minute >= letUntil;
            if (first || second) {
                int a = first ? ride(line, last()) : Integer.MAX_VALUE;
                int b = second ? ride(other, last()) : Integer.MAX_VALUE;
                return minute + Math.min(a, b) + walk(last());
            }
        }
        return limit + walk(0);
    }
}
