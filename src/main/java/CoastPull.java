import java.util.Arrays;

/** A train on a line of hills and limits, driven for least power in the time there is. */
public final class CoastPull {
    public static final int UNKNOWN = -1, OUTSIDE = -2, STATE = -3, FULL = -4, NONE = -1000000;

    private static final int MOST_CELLS = 16;
    private static final int MOST_GRADE = 4;
    private static final int MOST_SPEED = 6;
    private static final int MOST_TIME = 1000;
    private static final int MOST_APART = 2;

    /*
     * A choice (of speeds on a leg, of times for the legs) is held as one long: its power, shifted, plus a
     * number below 1 << POWER_SHIFT by which choices of like power are ordered. So the lesser long is the better
     * choice, and choices made one after the other are put together by adding.
     * Powers lie between -6400 and 6400, so no choice comes near NO_CHOICE.
     */
    private static final int POWER_SHIFT = 48;
    private static final long ORDER_MASK = (1L << POWER_SHIFT) - 1;
    private static final long NO_CHOICE = 1L << 62;

    private final Line rails;
    private final Train engine;
    private final Steps steps;
    private final Ways ways;
    private final Shares shares;
    private final Log book;

    public CoastPull() {
        rails = new Line();
        engine = new Train();
        steps = new Steps(rails, engine);
        ways = new Ways(rails, steps);
        shares = new Shares(rails, ways);
        book = new Log(rails, steps);
    }

    // ---- the line, the train

    public int line(int n) {
        if (n < 1 || n > MOST_CELLS) {
            return OUTSIDE;
        }
        int before = rails.cellCount();
        rails.lay(n);
        book.wipe();
        forgetChoices();
        return before;
    }

    public int cell(int k, int grade, int limit) {
        if (!rails.hasCell(k)) {
            return UNKNOWN;
        }
        if (grade < -MOST_GRADE || grade > MOST_GRADE || limit < 1 || limit > MOST_SPEED) {
            return OUTSIDE;
        }
        int before = rails.limitOf(k);
        rails.shape(k, grade, limit);
        forgetChoices();
        return before;
    }

    public int stop(int post, boolean is) {
        if (!rails.hasPost(post)) {
            return UNKNOWN;
        }
        if (rails.isEnd(post)) {
            return STATE;
        }
        rails.markStop(post, is);
        forgetChoices();
        return rails.legCount();
    }

    public int train(int what, int v) {
        if (!engine.knows(what) || !engine.mayBe(what, v)) {
            return OUTSIDE;
        }
        int before = engine.number(what);
        engine.put(what, v);
        forgetChoices();
        return before;
    }

    public int has(int what) {
        return engine.knows(what) ? engine.number(what) : OUTSIDE;
    }

    public int leg(int leg, boolean last) {
        if (!rails.hasLeg(leg)) {
            return UNKNOWN;
        }
        return last ? rails.lastPost(leg) : rails.firstPost(leg);
    }

    // ---- steps

    public int force(int cell, int u, int v) {
        int refusal = stepRefusal(cell, u, v);
        return refusal != 0 ? refusal : steps.forceOf(cell, u, v);
    }

    public int fault(int cell, int u, int v) {
        int refusal = stepRefusal(cell, u, v);
        return refusal != 0 ? refusal : steps.faultOf(cell, u, v);
    }

    public int time(int cell, int u, int v) {
        int refusal = stepRefusal(cell, u, v);
        if (refusal != 0) {
            return refusal;
        }
        return steps.faultOf(cell, u, v) != 0 ? NONE : steps.timeOf(u, v);
    }

    public int power(int cell, int u, int v) {
        int refusal = stepRefusal(cell, u, v);
        if (refusal != 0) {
            return refusal;
        }
        return steps.faultOf(cell, u, v) != 0 ? NONE : steps.powerOf(cell, u, v);
    }

    // ---- ways

    public int fastest(int leg) {
        if (!rails.hasLeg(leg)) {
            return UNKNOWN;
        }
        ways.bringUpToDate();
        return ways.pairCount(leg) == 0 ? NONE : ways.pairTime(leg, 0);
    }

    public int best(int leg, int t) {
        int refusal = driveRefusal(leg, t);
        if (refusal != 0) {
            return refusal;
        }
        ways.bringUpToDate();
        int pair = ways.pairWithin(leg, t);
        return pair < 0 ? NONE : ways.pairPower(leg, pair);
    }

    public int bestTime(int leg, int t) {
        int refusal = driveRefusal(leg, t);
        if (refusal != 0) {
            return refusal;
        }
        ways.bringUpToDate();
        int pair = ways.pairWithin(leg, t);
        return pair < 0 ? NONE : ways.pairTime(leg, pair);
    }

    public int bestSpeed(int leg, int t, int post) {
        if (!rails.hasLeg(leg) || !rails.hasPost(post)) {
            return UNKNOWN;
        }
        if (!isTime(t)) {
            return OUTSIDE;
        }
        if (post < rails.firstPost(leg) || post > rails.lastPost(leg)) {
            return NONE;
        }
        ways.bringUpToDate();
        int pair = ways.pairWithin(leg, t);
        return pair < 0 ? NONE : ways.pairSpeed(leg, pair, post);
    }

    public int curve(int leg) {
        if (!rails.hasLeg(leg)) {
            return UNKNOWN;
        }
        ways.bringUpToDate();
        return ways.pairCount(leg);
    }

    public int point(int leg, int i, boolean ofPower) {
        if (!rails.hasLeg(leg)) {
            return UNKNOWN;
        }
        ways.bringUpToDate();
        if (i < 0 || i >= ways.pairCount(leg)) {
            return NONE;
        }
        return ofPower ? ways.pairPower(leg, i) : ways.pairTime(leg, i);
    }

    // ---- sharing

    public int share(int t) {
        if (!isTime(t)) {
            return OUTSIDE;
        }
        ways.bringUpToDate();
        shares.bringUpToDate();
        return shares.isThere(t) ? shares.powerTogether(t) : NONE;
    }

    public int shareTime(int t, int leg) {
        if (!rails.hasLeg(leg)) {
            return UNKNOWN;
        }
        if (!isTime(t)) {
            return OUTSIDE;
        }
        ways.bringUpToDate();
        shares.bringUpToDate();
        return shares.isThere(t) ? shares.legTime(t, leg) : NONE;
    }

    public int needs(int power) {
        ways.bringUpToDate();
        shares.bringUpToDate();
        for (int t = 0; t <= MOST_TIME; t++) {
            if (shares.isThere(t) && shares.powerTogether(t) <= power) {
                return t;
            }
        }
        return NONE;
    }

    // ---- the log

    public int log(int speed) {
        if (!isSpeed(speed)) {
            return OUTSIDE;
        }
        if (book.isFull()) {
            return FULL;
        }
        book.add(speed);
        return book.size();
    }

    public int clear() {
        int before = book.size();
        book.wipe();
        return before;
    }

    public int judged(int what) {
        switch (what) {
            case 0:
                return book.timeTogether();
            case 1:
                return book.powerTogether();
            case 2:
                return book.faultCount();
            case 3:
                return book.firstFaultCell();
            case 4:
                return book.stopsPassed();
            default:
                return OUTSIDE;
        }
    }

    public int count(int what) {
        switch (what) {
            case 0:
                return rails.cellCount();
            case 1:
                return rails.legCount();
            case 2:
                return book.size();
            default:
                return OUTSIDE;
        }
    }

    // ---- what several calls need

    private void forgetChoices() {
        ways.forget();
        shares.forget();
    }

    private int stepRefusal(int cell, int u, int v) {
        if (!rails.hasCell(cell)) {
            return UNKNOWN;
        }
        return isSpeed(u) && isSpeed(v) ? 0 : OUTSIDE;
    }

    private int driveRefusal(int leg, int t) {
        if (!rails.hasLeg(leg)) {
            return UNKNOWN;
        }
        return isTime(t) ? 0 : OUTSIDE;
    }

    private static boolean isSpeed(int speed) {
        return speed >= 0 && speed <= MOST_SPEED;
    }

    private static boolean isTime(int t) {
        return t >= 0 && t <= MOST_TIME;
    }

    /** The cells with their grades and limits, the stops, and the legs between them. */
    private static final class Line {
        private final int[] grades = new int[MOST_CELLS];
        private final int[] limits = new int[MOST_CELLS];
        private final boolean[] stops = new boolean[MOST_CELLS + 1];
        private final int[] stopPosts = new int[MOST_CELLS + 1];
        private int cells;
        private int legs;

        Line() {
            lay(1);
        }

        void lay(int n) {
            cells = n;
            for (int k = 0; k < MOST_CELLS; k++) {
                grades[k] = 0;
                limits[k] = MOST_SPEED;
            }
            for (int post = 0; post <= MOST_CELLS; post++) {
                stops[post] = post == 0 || post == n;
            }
            findLegs();
        }

        void shape(int k, int grade, int limit) {
            grades[k] = grade;
            limits[k] = limit;
        }

        void markStop(int post, boolean is) {
            stops[post] = is;
            findLegs();
        }

        private void findLegs() {
            int found = 0;
            for (int post = 0; post <= cells; post++) {
                if (stops[post]) {
                    stopPosts[found] = post;
                    found++;
                }
            }
            legs = found - 1;
        }

        int cellCount() {
            return cells;
        }

        int legCount() {
            return legs;
        }

        boolean hasCell(int k) {
            return k >= 0 && k < cells;
        }

        boolean hasPost(int post) {
            return post >= 0 && post <= cells;
        }

        boolean hasLeg(int leg) {
            return leg >= 0 && leg < legs;
        }

        boolean isEnd(int post) {
            return post == 0 || post == cells;
        }

        boolean isStop(int post) {
            return stops[post];
        }

        int gradeOf(int k) {
            return grades[k];
        }

        int limitOf(int k) {
            return limits[k];
        }

        int firstPost(int leg) {
            return stopPosts[leg];
        }

        int lastPost(int leg) {
            return stopPosts[leg + 1];
        }
    }

    /** The numbers of the train, each by what it is. */
    private static final class Train {
        private static final int WEIGHT = 0, DRAG = 1, PULL = 2, BRAKE = 3, BACK = 4;
        private static final int[] LEAST = {1, 0, 1, 1, 0};
        private static final int[] MOST = {20, 20, 400, 400, 10};
        private static final int[] AT_FIRST = {1, 1, 100, 100, 0};

        private final int[] numbers = AT_FIRST.clone();

        boolean knows(int what) {
            return what >= 0 && what < numbers.length;
        }

        boolean mayBe(int what, int v) {
            return v >= LEAST[what] && v <= MOST[what];
        }

        int number(int what) {
            return numbers[what];
        }

        void put(int what, int v) {
            numbers[what] = v;
        }
    }

    /** What a step through a cell, from a speed to a speed, asks of the train. */
    private static final class Steps {
        private final Line rails;
        private final Train engine;

        Steps(Line rails, Train engine) {
            this.rails = rails;
            this.engine = engine;
        }

        int forceOf(int k, int u, int v) {
            int weight = engine.number(Train.WEIGHT);
            return weight * (v * v - u * u) + weight * rails.gradeOf(k) + engine.number(Train.DRAG) * (u + v);
        }

        int faultOf(int k, int u, int v) {
            if (Math.max(u, v) > rails.limitOf(k)) {
                return 1;
            }
            if (u == 0 && v == 0) {
                return 2;
            }
            if (Math.abs(u - v) > MOST_APART) {
                return 3;
            }
            int needed = forceOf(k, u, v);
            if (needed > engine.number(Train.PULL)) {
                return 4;
            }
            return needed < -engine.number(Train.BRAKE) ? 5 : 0;
        }

        int timeOf(int u, int v) {
            int both = u + v;
            return both > 0 ? 60 / both : 0;
        }

        int powerOf(int k, int u, int v) {
            int needed = forceOf(k, u, v);
            return needed > 0 ? needed : -(engine.number(Train.BACK) * -needed / 10);
        }
    }

    /**
     * The curves of all legs, one behind the other, each pair with its best way.
     * A way is a choice whose order number has three bits for the speed at each post behind the leg's first one,
     * the nearer post in the higher bits: so the lesser number is the way that is first by speeds.
     */
    private static final class Ways {
        private static final int SPEEDS = MOST_SPEED + 1;
        private static final int SPEED_BITS = 3;
        private static final int SPEED_MASK = 7;
        // No way takes longer than 30 a cell (at speeds 1 and 1) and 30 more for each of its two stops.
        private static final int SLOWEST = 30;
        private static final int TIMES = SLOWEST * (MOST_CELLS + 2) + 1;
        // A leg of one cell has no way, so legs with a curve are half as many as cells at most.
        private static final int MOST_PAIRS = SLOWEST * MOST_CELLS + (2 * SLOWEST + 1) * (MOST_CELLS / 2);

        private final Line rails;
        private final Steps steps;
        // The best choice for each speed at a post and each exact time until there, at two posts in turn.
        private final long[] evenRow = new long[SPEEDS * TIMES];
        private final long[] oddRow = new long[SPEEDS * TIMES];
        private final int[] firstPair = new int[MOST_CELLS + 1];
        private final int[] times = new int[MOST_PAIRS];
        private final long[] choices = new long[MOST_PAIRS];
        private boolean upToDate = false;

        Ways(Line rails, Steps steps) {
            this.rails = rails;
            this.steps = steps;
        }

        void forget() {
            upToDate = false;
        }

        void bringUpToDate() {
            if (upToDate) {
                return;
            }
            int pairs = 0;
            for (int leg = 0; leg < rails.legCount(); leg++) {
                firstPair[leg] = pairs;
                pairs = gatherPairs(driveOver(leg), pairs);
            }
            firstPair[rails.legCount()] = pairs;
            upToDate = true;
        }

        /** The row at the last post of a leg. */
        private long[] driveOver(int leg) {
            int first = rails.firstPost(leg);
            int last = rails.lastPost(leg);
            long[] here = evenRow;
            long[] next = oddRow;
            Arrays.fill(here, NO_CHOICE);
            here[0] = 0;
            for (int k = first; k < last; k++) {
                Arrays.fill(next, NO_CHOICE);
                driveThrough(k, k - first, k + 1 == last, here, next);
                long[] swapped = here;
                here = next;
                next = swapped;
            }
            return here;
        }

        private void driveThrough(int k, int cellsBefore, boolean toStop, long[] here, long[] next) {
            int least = toStop ? 0 : 1;
            int most = toStop ? 0 : MOST_SPEED;
            int latest = SLOWEST * (cellsBefore + 1);
            for (int u = 0; u <= MOST_SPEED; u++) {
                for (int v = least; v <= most; v++) {
                    if (steps.faultOf(k, u, v) == 0) {
                        long added = ((long) steps.powerOf(k, u, v) << POWER_SHIFT)
                            + ((long) v << speedPlace(cellsBefore + 1));
                        spread(here, u * TIMES, next, v * TIMES + steps.timeOf(u, v), latest, added);
                    }
                }
            }
        }

        private static void spread(long[] here, int from, long[] next, int to, int latest, long added) {
            for (int t = 0; t <= latest; t++) {
                long before = here[from + t];
                if (before != NO_CHOICE) {
                    next[to + t] = Math.min(next[to + t], before + added);
                }
            }
        }

        /** Takes from a row at a stop what needs less power than all that is faster. */
        private int gatherPairs(long[] row, int pairsBefore) {
            int pairs = pairsBefore;
            long least = NO_CHOICE >> POWER_SHIFT;
            for (int t = 0; t < TIMES && pairs < MOST_PAIRS; t++) {
                long needed = row[t] >> POWER_SHIFT;
                if (needed < least) {
                    least = needed;
                    times[pairs] = t;
                    choices[pairs] = row[t];
                    pairs++;
                }
            }
            return pairs;
        }

        private static int speedPlace(int postOfLeg) {
            return SPEED_BITS * (MOST_CELLS - postOfLeg);
        }

        int pairCount(int leg) {
            return firstPair[leg + 1] - firstPair[leg];
        }

        int pairTime(int leg, int pair) {
            return times[firstPair[leg] + pair];
        }

        int pairPower(int leg, int pair) {
            return (int) (choices[firstPair[leg] + pair] >> POWER_SHIFT);
        }

        int pairSpeed(int leg, int pair, int post) {
            int postOfLeg = post - rails.firstPost(leg);
            if (postOfLeg == 0) {
                return 0;
            }
            return (int) (choices[firstPair[leg] + pair] >> speedPlace(postOfLeg)) & SPEED_MASK;
        }

        /** The last pair of a leg's curve that takes t at most, -1 if there is none. */
        int pairWithin(int leg, int t) {
            int pair = pairCount(leg) - 1;
            while (pair >= 0 && pairTime(leg, pair) > t) {
                pair--;
            }
            return pair;
        }
    }

    /**
     * The best sharing for each time, made of curves that are up to date.
     * A sharing is a choice whose order number is read leg by leg, as digits: each leg's digit is the number of its
     * pair, so the lesser number is the sharing with the lesser time where they are first unlike. Curves are short
     * where legs are many, so the numbers stay below 1 << 22.
     */
    private static final class Shares {
        private final Line rails;
        private final Ways ways;
        private final long[] choices = new long[MOST_TIME + 1];
        private final long[] placeValues = new long[MOST_CELLS];
        private boolean upToDate = false;

        Shares(Line rails, Ways ways) {
            this.rails = rails;
            this.ways = ways;
        }

        void forget() {
            upToDate = false;
        }

        void bringUpToDate() {
            if (upToDate) {
                return;
            }
            Arrays.fill(choices, 0);
            long placeValue = 1;
            for (int leg = rails.legCount() - 1; leg >= 0; leg--) {
                placeValues[leg] = placeValue;
                // Downwards, since a longer time looks at what the legs behind this one do with a shorter one.
                for (int t = MOST_TIME; t >= 0; t--) {
                    choices[t] = bestFrom(leg, t);
                }
                placeValue *= Math.max(1, ways.pairCount(leg));
            }
            upToDate = true;
        }

        private long bestFrom(int leg, int t) {
            long least = NO_CHOICE;
            int pairs = ways.pairCount(leg);
            for (int pair = 0; pair < pairs; pair++) {
                int left = t - ways.pairTime(leg, pair);
                if (left < 0) {
                    break;
                }
                if (choices[left] != NO_CHOICE) {
                    long added = ((long) ways.pairPower(leg, pair) << POWER_SHIFT) + pair * placeValues[leg];
                    least = Math.min(least, choices[left] + added);
                }
            }
            return least;
        }

        boolean isThere(int t) {
            return choices[t] != NO_CHOICE;
        }

        int powerTogether(int t) {
            return (int) (choices[t] >> POWER_SHIFT);
        }

        int legTime(int t, int leg) {
            int pairs = ways.pairCount(leg);
            long placeValue = placeValues[leg];
            if (pairs <= 0 || placeValue <= 0) {
                return NONE;
            }
            long order = choices[t] & ORDER_MASK;
            return ways.pairTime(leg, (int) (order / placeValue % pairs));
        }
    }

    /** The speeds told, judged by the line and the train as they are when it is asked. */
    private static final class Log {
        private final Line rails;
        private final Steps steps;
        private final int[] speeds = new int[MOST_CELLS + 1];
        private int told = 0;

        Log(Line rails, Steps steps) {
            this.rails = rails;
            this.steps = steps;
        }

        int size() {
            return told;
        }

        boolean isFull() {
            return told > rails.cellCount();
        }

        void add(int speed) {
            speeds[told] = speed;
            told++;
        }

        void wipe() {
            told = 0;
        }

        private boolean isFaulty(int k) {
            return steps.faultOf(k, speeds[k], speeds[k + 1]) != 0;
        }

        int timeTogether() {
            int sum = 0;
            for (int k = 0; k + 1 < told; k++) {
                sum += isFaulty(k) ? 0 : steps.timeOf(speeds[k], speeds[k + 1]);
            }
            return sum;
        }

        int powerTogether() {
            int sum = 0;
            for (int k = 0; k + 1 < told; k++) {
                sum += isFaulty(k) ? 0 : steps.powerOf(k, speeds[k], speeds[k + 1]);
            }
            return sum;
        }

        int faultCount() {
            int faults = 0;
            for (int k = 0; k + 1 < told; k++) {
                faults += isFaulty(k) ? 1 : 0;
            }
            return faults;
        }

        int firstFaultCell() {
            for (int k = 0; k + 1 < told; k++) {
                if (isFaulty(k)) {
                    return k;
                }
            }
            return NONE;
        }

        int stopsPassed() {
            int passed = 0;
            for (int post = 0; post < told; post++) {
                passed += rails.isStop(post) && speeds[post] != 0 ? 1 : 0;
            }
            return passed;
        }
    }
}
