/** A road at night with stops and lines: is it better to wait, or to walk on? The promises stand in shared/DOC.md. */
public final class WaitOrWalkOn {
    private static final int NOBODY = -1;
    private static final int OTHER = -2;
    private static final int STATE = -3;
    private static final int BELOW = -4;
    private static final int ROOM = -6;
    private static final int NONE = -9;
    private static final long LONG_REFUSAL = 4000000000000000000L;

    private static final int MOST_STOPS = 7;
    private static final int MOST_LINES = 3;
    private static final int MOST_LETTERS = 96;
    private static final int MOST_NUMBERS = 12;
    private static final int MOST_FIGURE = 12;
    private static final int LAST_LETTER = 255;

    /** The minute that stands for a line that never comes; those in which it can come are below it. */
    private static final int NEVER = 12;
    /** The last minute in which BEST still chooses. */
    private static final int LAST_CHOICE = 60;

    private static final int GOER = 0;
    private static final int LOOKER = 2;
    private static final int TOLD = 3;
    private static final int RUNNER = 4;
    private static final int LAZY = 5;
    private static final int FIGURE_OF_LOTS = 5;

    private final Road road = new Road();
    private final Road draft = new Road();
    private final Road kept = new Road();
    private final Plan plan = new Plan();
    private final Text text = new Text();
    private final int[] numbers = new int[MOST_NUMBERS];
    private final int[] refusals = new int[7];
    private int numberCount;
    private boolean hasImage;
    /** The line that the plan was made for; -1 when the road has changed since. */
    private int planned = -1;

    public WaitOrWalkOn() {
    }

    public int letter(int c) {
        if (c < 0) {
            return refuse(BELOW);
        }
        if (c > LAST_LETTER || text.length >= MOST_LETTERS) {
            return refuse(ROOM);
        }
        text.add(c);
        return text.length;
    }

    public int road() {
        draft.become(road);
        int answer = text.readOnto(draft);
        text.length = 0;
        if (answer > 0) {
            road.become(draft);
            planned = -1;
        }
        return answer;
    }

    public int stop(int stop, int what) {
        if (noStop(stop)) {
            return refuse(NOBODY);
        }
        switch (what) {
            case 0:
                return road.legs[stop];
            case 1:
                return road.walkHome(0) - road.walkHome(stop);
            case 2:
                return road.walkHome(stop);
            default:
                return refuse(OTHER);
        }
    }

    public int line(int line, int what) {
        if (noLine(line)) {
            return refuse(NOBODY);
        }
        Line of = road.lines[line];
        switch (what) {
            case 0:
                return of.kind;
            case 1:
                return of.run;
            case 2:
                return of.never;
            case 3:
                return of.total();
            case 4:
                return of.rideTo(road.last());
            default:
                return refuse(OTHER);
        }
    }

    public int chance(int line, int minute) {
        if (noLine(line)) {
            return refuse(NOBODY);
        }
        if (minute < 0) {
            return refuse(BELOW);
        }
        if (minute >= NEVER) {
            return refuse(ROOM);
        }
        return road.lines[line].weight(minute);
    }

    public int there(int line, int stop) {
        if (noLine(line) || noStop(stop)) {
            return refuse(NOBODY);
        }
        Line of = road.lines[line];
        return of.halts(stop, road.last()) ? of.rideTo(stop) : NONE;
    }

    public int set(int what, int v) {
        if (what < 0 || what > 3) {
            return refuse(OTHER);
        }
        if (v < Road.least(what)) {
            return refuse(BELOW);
        }
        if (v > Road.most(what)) {
            return refuse(ROOM);
        }
        int was = road.setting(what);
        road.change(what, v);
        planned = -1;
        return was;
    }

    public long comes(int line, int minute, int from, int part) {
        if (noLine(line)) {
            return refuseLong(NOBODY);
        }
        if (minute < 0 || from < 0) {
            return refuseLong(BELOW);
        }
        if (minute > NEVER || from >= NEVER) {
            return refuseLong(ROOM);
        }
        if (noPart(part)) {
            return refuseLong(OTHER);
        }
        Line of = road.lines[line];
        int above = minute < from ? 0 : of.weight(minute);
        return fraction(above, of.total() - of.weightAhead(from), part);
    }

    public int homeAt(int line, int kind, int figure, int t) {
        int refusal = noGoer(line, kind, figure, t, NEVER);
        if (refusal != 0) {
            return refuse(refusal);
        }
        return goerHome(road.lines[line], kind, figure, t);
    }

    public int walked() {
        return road.walkHome(0);
    }

    public long mean(int line, int kind, int figure, int part) {
        int refusal = noGoer(line, kind, figure, 0, 0);
        if (refusal != 0) {
            return refuseLong(refusal);
        }
        if (noPart(part)) {
            return refuseLong(OTHER);
        }
        Line of = road.lines[line];
        return fraction(homeSum(of, kind, figure), of.total(), part);
    }

    public long sooner(int line, int kind, int figure, int minute, int part) {
        int refusal = noGoer(line, kind, figure, minute, 999);
        if (refusal != 0) {
            return refuseLong(refusal);
        }
        if (noPart(part)) {
            return refuseLong(OTHER);
        }
        Line of = road.lines[line];
        int above = 0;
        for (int t = 0; t <= NEVER; t++) {
            if (goerHome(of, kind, figure, t) <= minute) {
                above += of.weight(t);
            }
        }
        return fraction(above, of.total(), part);
    }

    public int best(int line, int stop, int minute) {
        int refusal = noPlace(line, stop, minute, LAST_CHOICE);
        if (refusal != 0) {
            return refuse(refusal);
        }
        return planOf(line).choice(stop, minute);
    }

    public long bestMean(int line, int stop, int minute, int part) {
        int refusal = noPlace(line, stop, minute, LAST_CHOICE);
        if (refusal != 0) {
            return refuseLong(refusal);
        }
        if (noPart(part)) {
            return refuseLong(OTHER);
        }
        Plan of = planOf(line);
        return fraction(of.leastAt(stop, minute), of.weightAt(stop, minute), part);
    }

    public int patience(int line) {
        if (noLine(line)) {
            return refuse(NOBODY);
        }
        Plan of = planOf(line);
        for (int minute = 0; minute < LAST_CHOICE; minute++) {
            int choice = of.choice(0, minute);
            if (choice != 0) {
                return choice == 1 ? minute : NONE;
            }
        }
        return NONE;
    }

    public long news(int line, int part) {
        if (noLine(line)) {
            return refuseLong(NOBODY);
        }
        if (noPart(part)) {
            return refuseLong(OTHER);
        }
        Line of = road.lines[line];
        return fraction(planOf(line).leastAt(0, 0) - informedSum(of), of.total(), part);
    }

    public long both(int line, int other, int part) {
        if (noPair(line, other)) {
            return refuseLong(NOBODY);
        }
        if (noPart(part)) {
            return refuseLong(OTHER);
        }
        return pairMean(line, other, 0, part);
    }

    public int letGo(int line, int other) {
        if (noPair(line, other)) {
            return refuse(NOBODY);
        }
        int first = 0;
        int least = pairSum(line, other, 0);
        for (int minute = 1; minute <= NEVER; minute++) {
            int sum = pairSum(line, other, minute);
            if (sum < least) {
                least = sum;
                first = minute;
            }
        }
        return first;
    }

    public long letMean(int line, int other, int minute, int part) {
        if (noPair(line, other)) {
            return refuseLong(NOBODY);
        }
        if (minute < 0) {
            return refuseLong(BELOW);
        }
        if (minute > NEVER) {
            return refuseLong(ROOM);
        }
        if (noPart(part)) {
            return refuseLong(OTHER);
        }
        return pairMean(line, other, minute, part);
    }

    public int back(int stop, int minutes) {
        if (noStop(stop)) {
            return refuse(NOBODY);
        }
        if (minutes < 0) {
            return refuse(BELOW);
        }
        if (minutes > 30) {
            return refuse(ROOM);
        }
        return Math.min(minutes * road.pace, road.yardsFrom(stop));
    }

    public long gone(int line, int stop, int minute, int part) {
        int refusal = noPlace(line, stop, minute, 99);
        if (refusal != 0) {
            return refuseLong(refusal);
        }
        if (noPart(part)) {
            return refuseLong(OTHER);
        }
        return goneUnseen(road.lines[line], stop, minute, minute, part);
    }

    public long stood(int line, int stop, int from, int minute, int part) {
        if (noLine(line) || noStop(stop)) {
            return refuseLong(NOBODY);
        }
        if (from < 0 || minute < 0) {
            return refuseLong(BELOW);
        }
        if (minute > 99 || from > minute) {
            return refuseLong(ROOM);
        }
        if (noPart(part)) {
            return refuseLong(OTHER);
        }
        return goneUnseen(road.lines[line], stop, from, minute, part);
    }

    public int others(int n, int h, int c, int minute) {
        if (n < 1 || h < 0 || c < 0 || minute < 0) {
            return refuse(BELOW);
        }
        if (n > 9 || h > 30 || c > 30 || minute > 60) {
            return refuse(ROOM);
        }
        int waiting = n;
        int lost = 0;
        int left = 0;
        for (int m = 1; m <= minute; m++) {
            lost += 1 + left;
            int still = withHeartAbove(lost, n, h, c);
            left = waiting - still;
            waiting = still;
        }
        return waiting;
    }

    public int rules(int line) {
        if (noLine(line)) {
            return refuse(NOBODY);
        }
        Line of = road.lines[line];
        int rule = 0;
        int least = homeSum(of, TOLD, 0);
        for (int figure = 1; figure <= MOST_FIGURE; figure++) {
            int sum = homeSum(of, TOLD, figure);
            if (sum < least) {
                least = sum;
                rule = figure;
            }
        }
        return rule;
    }

    public int row(int v) {
        if (v < 0) {
            return refuse(BELOW);
        }
        if (v > 999 || numberCount >= MOST_NUMBERS) {
            return refuse(ROOM);
        }
        numbers[numberCount] = v;
        numberCount++;
        return numberCount;
    }

    public int judge() {
        int answer = NONE;
        for (int i = 0; i < numberCount && answer == NONE; i++) {
            if (i > 0 && (noStop(i) || numbers[i] - numbers[i - 1] < road.wayFrom(i - 1, road.pace))) {
                answer = i;
            }
        }
        numberCount = 0;
        return answer;
    }

    public int lots(int line, int kind, int n, int z) {
        if (noLine(line)) {
            return refuse(NOBODY);
        }
        if (noKind(kind)) {
            return refuse(OTHER);
        }
        if (n < 1) {
            return refuse(BELOW);
        }
        if (n > 30) {
            return refuse(ROOM);
        }
        Line of = road.lines[line];
        int total = Math.max(1, of.total());
        int seed = z;
        int sum = 0;
        for (int night = 0; night < n; night++) {
            seed = seed * 1664525 + 1013904223;
            int draw = (seed & 0x7fffffff) / 256 % total;
            sum += goerHome(of, kind, FIGURE_OF_LOTS, of.drawn(draw));
        }
        return sum;
    }

    public int image() {
        kept.become(road);
        hasImage = true;
        return kept.stops;
    }

    public int on() {
        if (!hasImage) {
            return refuse(STATE);
        }
        road.become(kept);
        planned = -1;
        return road.stops;
    }

    public int count(int what) {
        if (what >= 11 && what <= 16) {
            return refusals[what - 10];
        }
        switch (what) {
            case 0:
                return road.stops;
            case 1:
                return road.lineCount;
            case 2:
                return road.yards();
            case 3:
                return road.pace;
            case 4:
                return road.sight;
            case 5:
                return road.limit;
            case 6:
                return numberCount;
            case 7:
                return text.length;
            default:
                return NONE;
        }
    }

    private int refuse(int refusal) {
        int number = -refusal;
        if (number > 0 && number < refusals.length) {
            refusals[number]++;
        }
        return refusal;
    }

    private long refuseLong(int refusal) {
        return LONG_REFUSAL - refuse(refusal);
    }

    private boolean noStop(int stop) {
        return stop < 0 || stop >= road.stops;
    }

    private boolean noLine(int line) {
        return line < 0 || line >= road.lineCount;
    }

    private boolean noPair(int line, int other) {
        return noLine(line) || noLine(other) || line == other;
    }

    private static boolean noKind(int kind) {
        return kind < GOER || kind > LAZY;
    }

    private static boolean noPart(int part) {
        return part < 0 || part > 1;
    }

    /** The refusal of a goer with a figure, and of a minute that goes with him; 0 for none. */
    private int noGoer(int line, int kind, int figure, int minute, int mostMinute) {
        if (noLine(line)) {
            return NOBODY;
        }
        if (noKind(kind)) {
            return OTHER;
        }
        if (figure < 0 || minute < 0) {
            return BELOW;
        }
        return figure > MOST_FIGURE || minute > mostMinute ? ROOM : 0;
    }

    /** The refusal of a line at a stop in a minute; 0 for none. */
    private int noPlace(int line, int stop, int minute, int mostMinute) {
        if (noLine(line) || noStop(stop)) {
            return NOBODY;
        }
        if (minute < 0) {
            return BELOW;
        }
        return minute > mostMinute ? ROOM : 0;
    }

    /** A part of a fraction in least terms; what can not be (nothing below the line) is 0 by 1. */
    private static long fraction(int above, int below, int part) {
        if (above <= 0 || below <= 0) {
            return part == 0 ? 0 : 1;
        }
        int divisor = below;
        int rest = above % below;
        for (int i = 0; i < 100 && rest > 0; i++) {
            int next = divisor % rest;
            divisor = rest;
            rest = next;
        }
        return part == 0 ? above / divisor : below / divisor;
    }

    /** The minute in which a goer is home if the line comes in t. */
    private int goerHome(Line line, int kind, int figure, int t) {
        int last = road.last();
        int pace = kind == RUNNER ? 2 * road.pace : road.pace;
        int fromLast = road.wayFrom(last, pace);
        int looks = kind == LOOKER || kind == TOLD || kind == LAZY ? road.sight : 0;
        int minute = 0;
        for (int stop = 0; stop < last; stop++) {
            int leaves = minute + waitOf(kind, figure, stop);
            int comesAt = t + line.rideTo(stop);
            if (t < NEVER && line.halts(stop, last) && comesAt >= minute && comesAt <= leaves + looks) {
                return t + line.rideTo(last) + fromLast;
            }
            minute = leaves + road.wayFrom(stop, pace);
        }
        return minute + fromLast;
    }

    /** How long a goer waits at a stop (but the last) before he looks round, if nothing comes. */
    private int waitOf(int kind, int figure, int stop) {
        switch (kind) {
            case GOER:
                return stop == 0 ? road.limit : 0;
            case TOLD:
                return stop == 0 ? figure : 0;
            case LAZY:
                return stop == 0 ? 2 * figure : figure;
            default:
                return 0;
        }
    }

    private int homeSum(Line line, int kind, int figure) {
        int sum = 0;
        for (int t = 0; t <= NEVER; t++) {
            sum += line.weight(t) * goerHome(line, kind, figure, t);
        }
        return sum;
    }

    /** Like homeSum, of one who is told at first when the line comes. */
    private int informedSum(Line line) {
        int walks = road.walkHome(0);
        int sum = line.weight(NEVER) * walks;
        for (int t = 0; t < NEVER; t++) {
            sum += line.weight(t) * Math.min(walks, t + road.rideHome(line));
        }
        return sum;
    }

    private Plan planOf(int line) {
        if (planned != line) {
            plan.make(road, road.lines[line]);
            planned = line;
        }
        return plan;
    }

    private long pairMean(int line, int other, int letUntil, int part) {
        int below = road.lines[line].total() * road.lines[other].total();
        return fraction(pairSum(line, other, letUntil), below, part);
    }

    /** All minutes of being home, each as often as its chance, if the other line is let go by ahead of a minute. */
    private int pairSum(int line, int other, int letUntil) {
        Line first = road.lines[line];
        Line second = road.lines[other];
        int rideFirst = road.rideHome(first);
        int rideSecond = road.rideHome(second);
        int sum = 0;
        for (int t = 0; t <= NEVER; t++) {
            int weight = first.weight(t);
            for (int u = 0; u <= NEVER && weight > 0; u++) {
                int taken = u < letUntil ? NEVER : u;
                sum += weight * second.weight(u) * pairHome(t, rideFirst, taken, rideSecond);
            }
        }
        return sum;
    }

    private int pairHome(int t, int rideFirst, int u, int rideSecond) {
        // At the last stop nobody waits, and with one stop the first is the last.
        if (road.last() == 0) {
            return road.walkHome(0);
        }
        if (t == NEVER && u == NEVER) {
            return road.limit + road.walkHome(0);
        }
        if (t == u) {
            return t + Math.min(rideFirst, rideSecond);
        }
        return t < u ? t + rideFirst : u + rideSecond;
    }

    /** How likely a line has been at a stop ahead of a minute, if it was not there from an earlier one on. */
    private long goneUnseen(Line line, int stop, int from, int minute, int part) {
        if (!line.halts(stop, road.last())) {
            return fraction(0, 1, part);
        }
        int ride = line.rideTo(stop);
        int earlier = line.weightAhead(from - ride);
        int between = line.weightAhead(minute - ride) - earlier;
        return fraction(earlier, line.total() - between, part);
    }

    private static int withHeartAbove(int lost, int n, int h, int c) {
        int still = 0;
        for (int k = 0; k < n; k++) {
            if (k * h + c > lost) {
                still++;
            }
        }
        return still;
    }

    /** A line: how fast it is, where it halts, and how likely it comes when. */
    private static final class Line {
        private static final int NIGHT_BUS = 1;
        private static final int EXPRESS = 2;
        private static final int ROUND = 3;
        private static final int TRAM = 4;

        int kind;
        int run;
        int never;
        final int[] chances = new int[NEVER];

        void become(Line other) {
            kind = other.kind;
            run = other.run;
            never = other.never;
            System.arraycopy(other.chances, 0, chances, 0, NEVER);
        }

        /** The chance of a minute, or that of never. */
        int weight(int t) {
            if (t == NEVER) {
                return never;
            }
            return t >= 0 && t < NEVER ? chances[t] : 0;
        }

        /** All chances of the minutes ahead of one (never is ahead of none). */
        int weightAhead(int minute) {
            int sum = 0;
            for (int t = 0; t < NEVER && t < minute; t++) {
                sum += chances[t];
            }
            return sum;
        }

        int total() {
            return weightAhead(NEVER) + never;
        }

        /** The minute (or never) on which a number below the total falls. */
        int drawn(int draw) {
            int ahead = 0;
            for (int t = 0; t < NEVER; t++) {
                ahead += chances[t];
                if (draw < ahead) {
                    return t;
                }
            }
            return NEVER;
        }

        int rideTo(int stop) {
            if (stop <= 0) {
                return 0;
            }
            switch (kind) {
                case NIGHT_BUS:
                    return stop * (run + 1);
                case ROUND:
                    return stop * (run + 1) + 5;
                case TRAM:
                    return stop * ((run + 1) / 2);
                default:
                    return stop * run;
            }
        }

        boolean halts(int stop, int last) {
            boolean skips = kind == EXPRESS || kind == TRAM;
            return !skips || stop == last || stop % 2 == 0;
        }
    }

    /** All that an image keeps: the stops, the lines and the settings. */
    private static final class Road {
        private static final int HOME = 0;
        private static final int PACE = 1;
        private static final int SIGHT = 2;
        private static final int LIMIT = 3;

        int stops = 1;
        int home = 400;
        int pace = 80;
        int sight = 2;
        int limit = 30;
        int lineCount = 0;
        final int[] legs = new int[MOST_STOPS];
        final Line[] lines = new Line[MOST_LINES];

        Road() {
            for (int i = 0; i < MOST_LINES; i++) {
                lines[i] = new Line();
            }
        }

        void become(Road other) {
            stops = other.stops;
            home = other.home;
            pace = other.pace;
            sight = other.sight;
            limit = other.limit;
            lineCount = other.lineCount;
            System.arraycopy(other.legs, 0, legs, 0, MOST_STOPS);
            for (int i = 0; i < MOST_LINES; i++) {
                lines[i].become(other.lines[i]);
            }
        }

        static int least(int what) {
            switch (what) {
                case PACE:
                    return 20;
                case LIMIT:
                    return 1;
                default:
                    return 0;
            }
        }

        static int most(int what) {
            switch (what) {
                case HOME:
                    return 999;
                case PACE:
                    return 200;
                case SIGHT:
                    return 9;
                default:
                    return 60;
            }
        }

        int setting(int what) {
            switch (what) {
                case HOME:
                    return home;
                case PACE:
                    return pace;
                case SIGHT:
                    return sight;
                default:
                    return limit;
            }
        }

        /** Whether a setting may become a number; if so, it does. */
        boolean change(int what, int v) {
            if (v < least(what) || v > most(what)) {
                return false;
            }
            switch (what) {
                case HOME:
                    home = v;
                    break;
                case PACE:
                    pace = v;
                    break;
                case SIGHT:
                    sight = v;
                    break;
                default:
                    limit = v;
                    break;
            }
            return true;
        }

        /** Whether a stop more may come; if so, it does. */
        boolean addStop(int leg) {
            if (leg < 1 || leg > 999 || stops >= MOST_STOPS) {
                return false;
            }
            legs[stops] = leg;
            stops++;
            return true;
        }

        int last() {
            return stops - 1;
        }

        int yards() {
            int sum = home;
            for (int stop = 1; stop < stops; stop++) {
                sum += legs[stop];
            }
            return sum;
        }

        /** The yards from a stop to the next one, from the last one home. */
        int yardsFrom(int stop) {
            return stop >= 0 && stop < stops - 1 ? legs[stop + 1] : home;
        }

        /** The minutes from a stop to the next one, from the last one home. */
        int wayFrom(int stop, int atPace) {
            return atPace < 1 ? 0 : (yardsFrom(stop) + atPace - 1) / atPace;
        }

        int walkHome(int from) {
            int sum = 0;
            for (int stop = from; stop < stops; stop++) {
                sum += wayFrom(stop, pace);
            }
            return sum;
        }

        /** The minutes home of one who rides from the first stop. */
        int rideHome(Line line) {
            return line.rideTo(last()) + wayFrom(last(), pace);
        }
    }

    /** The letters of a road that is told. */
    private static final class Text {
        private static final char END = ';';
        private static final String KINDS = "bnert";

        final int[] letters = new int[MOST_LETTERS];
        int length = 0;

        void add(int c) {
            if (length < MOST_LETTERS) {
                letters[length] = c;
                length++;
            }
        }

        /** How many statements came onto a road, or the fault; with one the road may hold some of them. */
        int readOnto(Road road) {
            int wrong = firstWrongPlace();
            if (wrong >= 0) {
                return -1000 - wrong;
            }
            int place = 0;
            int statements = 0;
            for (int i = 0; i < length && place < length; i++) {
                if (!takeStatement(road, place)) {
                    return -2000 - place;
                }
                place = digitsEnd(place) + 1;
                statements++;
            }
            return statements;
        }

        /** The place with which no road can go on; -1 for none. */
        private int firstWrongPlace() {
            int wrong = wrongPlace(0);
            int place = digitsEnd(0) + 1;
            for (int i = 0; i < length && place < length && wrong < 0; i++) {
                wrong = wrongPlace(place);
                place = digitsEnd(place) + 1;
            }
            return wrong;
        }

        /** The letter at a place; -1 behind the end. */
        private int at(int place) {
            return place >= 0 && place < length ? letters[place] : -1;
        }

        private boolean isDigit(int place) {
            return at(place) >= '0' && at(place) <= '9';
        }

        /** The place with which the statement that begins at a place can not go on; -1 for none. */
        private int wrongPlace(int place) {
            int most = mostDigits(at(place));
            if (most == 0) {
                return place;
            }
            int digits = digitsPlace(place);
            if (digits > place + 1 && kindAt(place + 1) < 0) {
                return place + 1;
            }
            int end = digitsEnd(place);
            if (end - digits > most) {
                return digits + most;
            }
            return end - digits < leastDigits(at(place)) || at(end) != END ? end : -1;
        }

        private static int leastDigits(int letter) {
            switch (letter) {
                case 'p':
                    return 2;
                case 'l':
                    return 3;
                default:
                    return 1;
            }
        }

        /** How many digits a statement may have; 0, if none begins with this letter. */
        private static int mostDigits(int letter) {
            switch (letter) {
                case 's':
                case 'h':
                case 'p':
                    return 3;
                case 'l':
                    return 2 + NEVER;
                case 'e':
                    return 1;
                case 'm':
                    return 2;
                default:
                    return 0;
            }
        }

        private int kindAt(int place) {
            return at(place) < 0 ? -1 : KINDS.indexOf((char) at(place));
        }

        private int digitsPlace(int place) {
            return at(place) == 'l' ? place + 2 : place + 1;
        }

        /** The place behind the digits of the statement that begins at a place. */
        private int digitsEnd(int place) {
            int end = digitsPlace(place);
            while (end < length && isDigit(end)) {
                end++;
            }
            return end;
        }

        private int digit(int place) {
            return isDigit(place) ? at(place) - '0' : 0;
        }

        private int numberAt(int place) {
            int number = 0;
            for (int i = digitsPlace(place); i < digitsEnd(place); i++) {
                number = number * 10 + digit(i);
            }
            return number;
        }

        /** Whether the statement that begins at a place is as it must be; if so, it comes onto the road. */
        private boolean takeStatement(Road road, int place) {
            switch (at(place)) {
                case 's':
                    return road.addStop(numberAt(place));
                case 'h':
                    return road.change(Road.HOME, numberAt(place));
                case 'p':
                    return road.change(Road.PACE, numberAt(place));
                case 'e':
                    return road.change(Road.SIGHT, numberAt(place));
                case 'm':
                    return road.change(Road.LIMIT, numberAt(place));
                default:
                    return takeLine(road, place);
            }
        }

        private boolean takeLine(Road road, int place) {
            if (road.lineCount >= MOST_LINES) {
                return false;
            }
            Line line = road.lines[road.lineCount];
            int digits = digitsPlace(place);
            line.kind = kindAt(place + 1);
            line.run = digit(digits);
            line.never = digit(digits + 1);
            int minutes = digitsEnd(place) - digits - 2;
            for (int t = 0; t < NEVER; t++) {
                line.chances[t] = t < minutes ? digit(digits + 2 + t) : 0;
            }
            road.lineCount++;
            return line.run > 0 && line.total() > 0;
        }
    }

    /**
     * What is best at each stop in each minute, by one line.
     * Who walks faster than the line rides knows more at a stop than that it has not been there: that it had not
     * been at the stop which he left. So the least t that is still possible belongs to the place where he is.
     * Means are held as sums over the chances that are left, so that they can be compared without dividing.
     */
    private static final class Plan {
        private static final int BOUNDS = NEVER + 1;
        private static final int MINUTES = LAST_CHOICE + 1;

        private final int[] sums = new int[MOST_STOPS * MINUTES * BOUNDS];
        /** The chances of a t and of all behind it, never too. */
        private final int[] weightFrom = new int[BOUNDS];
        private final int[] ride = new int[MOST_STOPS];
        private final int[] walk = new int[MOST_STOPS];
        private final int[] walkHome = new int[MOST_STOPS];
        private final boolean[] halts = new boolean[MOST_STOPS];
        private int last;
        private int rideHome;

        void make(Road road, Line line) {
            last = road.last();
            rideHome = road.rideHome(line);
            for (int stop = 0; stop <= last; stop++) {
                ride[stop] = line.rideTo(stop);
                walk[stop] = road.wayFrom(stop, road.pace);
                walkHome[stop] = road.walkHome(stop);
                halts[stop] = line.halts(stop, last);
            }
            for (int t = 0; t <= NEVER; t++) {
                weightFrom[t] = line.total() - line.weightAhead(t);
            }
            for (int stop = last - 1; stop >= 0; stop--) {
                for (int minute = LAST_CHOICE; minute >= 0; minute--) {
                    for (int bound = boundAt(stop, minute, 0); bound <= NEVER; bound++) {
                        sums[index(stop, minute, bound)] = leastSum(stop, minute, bound);
                    }
                }
            }
        }

        /** 1 to walk, 0 to wait; -9, if the line must have been there. */
        int choice(int stop, int minute) {
            if (weightAt(stop, minute) == 0) {
                return NONE;
            }
            if (stop >= last || minute >= LAST_CHOICE) {
                return 1;
            }
            int next = boundAt(stop, minute + 1, 0);
            return walkSum(stop, minute, next) < sumAt(stop, minute + 1, next) ? 1 : 0;
        }

        /** How likely it is, in chances, that the line has not been at a stop ahead of a minute. */
        int weightAt(int stop, int minute) {
            return weightFrom[boundAt(stop, minute, 0)];
        }

        /** The least sum of one who knows no more than that the line has not been at a stop ahead of a minute. */
        int leastAt(int stop, int minute) {
            return sumAt(stop, minute, boundAt(stop, minute, 0));
        }

        private int sumAt(int stop, int minute, int bound) {
            if (stop >= last || minute > LAST_CHOICE) {
                return weightFrom[bound] * (minute + walkHome[stop]);
            }
            return sums[index(stop, minute, bound)];
        }

        private static int index(int stop, int minute, int bound) {
            return (stop * MINUTES + minute) * BOUNDS + bound;
        }

        /** The least t still possible: none ahead of a known one, none that was at a stop ahead of a minute. */
        private int boundAt(int stop, int minute, int known) {
            return Math.min(NEVER, Math.max(known, minute - ride[stop]));
        }

        private int leastSum(int stop, int minute, int bound) {
            int now = minute - ride[stop];
            int weightNow = now >= bound && now < NEVER ? weightFrom[now] - weightFrom[now + 1] : 0;
            int home = minute + walkHome[stop];
            int sumNow = weightNow * (halts[stop] ? now + rideHome : home);
            if (minute >= LAST_CHOICE) {
                return sumNow + (weightFrom[bound] - weightNow) * home;
            }
            int next = boundAt(stop, minute + 1, bound);
            return sumNow + Math.min(sumAt(stop, minute + 1, next), walkSum(stop, minute, next));
        }

        /** The sum of one who walks on from a stop: whom it passes between the stops rides no more. */
        private int walkSum(int stop, int minute, int bound) {
            int arrives = minute + walk[stop];
            int next = boundAt(stop + 1, arrives, bound);
            int passed = weightFrom[bound] - weightFrom[next];
            return passed * (minute + walkHome[stop]) + sumAt(stop + 1, arrives, next);
        }
    }
}
