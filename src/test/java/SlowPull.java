import java.util.ArrayList;
import java.util.Arrays;
import java.util.List;

/**
 * The document worked out a second time, by another road: tables of what is still to come, from the last post
 * backwards, and the choice read off forwards from them. Its calls bear the names of the document's.
 */
final class SlowPull {
    private static final int UNKNOWN = -1, OUTSIDE = -2, STATE = -3, FULL = -4, NONE = -1000000;
    private static final int NO = Integer.MAX_VALUE;
    private static final int TIMES = 1001;

    private int[] grades = new int[1];
    private int[] limits = {6};
    private boolean[] stops = {true, true};
    private final int[] train = {1, 1, 100, 100, 0};
    private final List<Integer> told = new ArrayList<>();
    private int[][][] restOfWay;
    private int[][] restOfShares;

    private void changed() {
        restOfWay = null;
        restOfShares = null;
    }

    private boolean isCell(int k) {
        return k >= 0 && k < grades.length;
    }

    private boolean isPost(int post) {
        return post >= 0 && post <= grades.length;
    }

    private boolean isLeg(int leg) {
        return leg >= 0 && leg < legs();
    }

    private static boolean within(int least, int v, int most) {
        return v >= least && v <= most;
    }

    private int legs() {
        int n = -1;
        for (boolean is : stops) {
            n += is ? 1 : 0;
        }
        return n;
    }

    private int stopPost(int number) {
        int left = number;
        for (int post = 0; post < stops.length; post++) {
            if (stops[post] && left-- == 0) {
                return post;
            }
        }
        throw new IllegalStateException("no such stop");
    }

    int line(int n) {
        if (!within(1, n, 16)) {
            return OUTSIDE;
        }
        int before = grades.length;
        grades = new int[n];
        limits = new int[n];
        Arrays.fill(limits, 6);
        stops = new boolean[n + 1];
        stops[0] = true;
        stops[n] = true;
        told.clear();
        changed();
        return before;
    }

    int cell(int k, int grade, int limit) {
        if (!isCell(k)) {
            return UNKNOWN;
        }
        if (!within(-4, grade, 4) || !within(1, limit, 6)) {
            return OUTSIDE;
        }
        int before = limits[k];
        grades[k] = grade;
        limits[k] = limit;
        changed();
        return before;
    }

    int stop(int post, boolean is) {
        if (!isPost(post)) {
            return UNKNOWN;
        }
        if (post == 0 || post == grades.length) {
            return STATE;
        }
        stops[post] = is;
        changed();
        return legs();
    }

    int train(int what, int v) {
        if (!within(0, what, 4)) {
            return OUTSIDE;
        }
        int least = what == 1 || what == 4 ? 0 : 1;
        int most = what < 2 ? 20 : what < 4 ? 400 : 10;
        if (!within(least, v, most)) {
            return OUTSIDE;
        }
        int before = train[what];
        train[what] = v;
        changed();
        return before;
    }

    int has(int what) {
        return within(0, what, 4) ? train[what] : OUTSIDE;
    }

    int leg(int leg, boolean last) {
        return isLeg(leg) ? stopPost(last ? leg + 1 : leg) : UNKNOWN;
    }

    private int refused(int cell, int u, int v) {
        return !isCell(cell) ? UNKNOWN : within(0, u, 6) && within(0, v, 6) ? 0 : OUTSIDE;
    }

    int force(int cell, int u, int v) {
        int refused = refused(cell, u, v);
        return refused != 0 ? refused : train[0] * (v * v - u * u + grades[cell]) + train[1] * (u + v);
    }

    int fault(int cell, int u, int v) {
        int refused = refused(cell, u, v);
        if (refused != 0) {
            return refused;
        }
        int f = force(cell, u, v);
        boolean[] faults = {u > limits[cell] || v > limits[cell], u + v == 0, u - v > 2 || v - u > 2, f > train[2],
            f < -train[3]};
        for (int i = 0; i < faults.length; i++) {
            if (faults[i]) {
                return i + 1;
            }
        }
        return 0;
    }

    int time(int cell, int u, int v) {
        int fault = fault(cell, u, v);
        return fault < 0 ? fault : fault > 0 ? NONE : 60 / (u + v);
    }

    int power(int cell, int u, int v) {
        int fault = fault(cell, u, v);
        if (fault != 0) {
            return fault < 0 ? fault : NONE;
        }
        int f = force(cell, u, v);
        return f > 0 ? f : -(train[4] * Math.abs(f) / 10);
    }

    /** restOfWay[post][speed][time]: the least power from there to the end of the leg in just that time. */
    private void workOutWays() {
        if (restOfWay != null) {
            return;
        }
        int n = grades.length;
        restOfWay = new int[n + 1][7][TIMES];
        for (int[][] atPost : restOfWay) {
            for (int[] atSpeed : atPost) {
                Arrays.fill(atSpeed, NO);
            }
        }
        for (int post = n - 1; post >= 0; post--) {
            for (int u = 0; u <= 6; u++) {
                if ((u == 0) == stops[post]) {
                    fillRest(post, u);
                }
            }
        }
    }

    private void fillRest(int post, int u) {
        for (int v = 0; v <= 6; v++) {
            if ((v == 0) != stops[post + 1] || fault(post, u, v) != 0) {
                continue;
            }
            int takes = time(post, u, v);
            for (int t = takes; t < TIMES; t++) {
                int rest = restFrom(post + 1, v, t - takes);
                if (rest != NO) {
                    restOfWay[post][u][t] = Math.min(restOfWay[post][u][t], rest + power(post, u, v));
                }
            }
        }
    }

    private int restFrom(int post, int speed, int time) {
        if (stops[post]) {
            return speed == 0 && time == 0 ? 0 : NO;
        }
        return restOfWay[post][speed][time];
    }

    /** The time of the best way, -1 if there is none. */
    private int timeOfBest(int leg, int t) {
        workOutWays();
        int[] byTime = restOfWay[stopPost(leg)][0];
        int found = -1;
        for (int at = 0; at <= t; at++) {
            if (byTime[at] != NO && (found < 0 || byTime[at] < byTime[found])) {
                found = at;
            }
        }
        return found;
    }

    int fastest(int leg) {
        if (!isLeg(leg)) {
            return UNKNOWN;
        }
        for (int t = 0; t < TIMES; t++) {
            if (timeOfBest(leg, t) >= 0) {
                return t;
            }
        }
        return NONE;
    }

    int best(int leg, int t) {
        int at = bestTime(leg, t);
        return at < 0 ? at : restOfWay[stopPost(leg)][0][at];
    }

    int bestTime(int leg, int t) {
        if (!isLeg(leg)) {
            return UNKNOWN;
        }
        if (!within(0, t, 1000)) {
            return OUTSIDE;
        }
        int at = timeOfBest(leg, t);
        return at < 0 ? NONE : at;
    }

    int bestSpeed(int leg, int t, int post) {
        if (!isLeg(leg) || !isPost(post)) {
            return UNKNOWN;
        }
        if (!within(0, t, 1000)) {
            return OUTSIDE;
        }
        int left = timeOfBest(leg, t);
        if (left < 0 || !within(stopPost(leg), post, stopPost(leg + 1))) {
            return NONE;
        }
        int speed = 0;
        for (int at = stopPost(leg); at < post; at++) {
            int next = leastNext(at, speed, left);
            left -= time(at, speed, next);
            speed = next;
        }
        return speed;
    }

    private int leastNext(int post, int u, int left) {
        for (int v = 0; v <= 6; v++) {
            if ((v == 0) == stops[post + 1] && fault(post, u, v) == 0 && time(post, u, v) <= left) {
                int rest = restFrom(post + 1, v, left - time(post, u, v));
                if (rest != NO && rest + power(post, u, v) == restOfWay[post][u][left]) {
                    return v;
                }
            }
        }
        throw new IllegalStateException("the way ends");
    }

    private List<Integer> timesOfCurve(int leg) {
        List<Integer> times = new ArrayList<>();
        for (int t = 0; t < TIMES; t++) {
            if (timeOfBest(leg, t) == t) {
                times.add(t);
            }
        }
        return times;
    }

    int curve(int leg) {
        return isLeg(leg) ? timesOfCurve(leg).size() : UNKNOWN;
    }

    int point(int leg, int i, boolean ofPower) {
        if (!isLeg(leg)) {
            return UNKNOWN;
        }
        List<Integer> times = timesOfCurve(leg);
        if (!within(0, i, times.size() - 1)) {
            return NONE;
        }
        return ofPower ? restOfWay[stopPost(leg)][0][times.get(i)] : times.get(i);
    }

    /** restOfShares[leg][t]: the least power of that leg and those behind it in t at most. */
    private void workOutShares() {
        workOutWays();
        if (restOfShares != null) {
            return;
        }
        int legs = legs();
        restOfShares = new int[legs + 1][TIMES];
        for (int leg = legs - 1; leg >= 0; leg--) {
            int[] byTime = restOfWay[stopPost(leg)][0];
            for (int t = 0; t < TIMES; t++) {
                restOfShares[leg][t] = NO;
                for (int at = 0; at <= t; at++) {
                    if (byTime[at] != NO && restOfShares[leg + 1][t - at] != NO) {
                        restOfShares[leg][t] = Math.min(restOfShares[leg][t],
                            byTime[at] + restOfShares[leg + 1][t - at]);
                    }
                }
            }
        }
    }

    int share(int t) {
        if (!within(0, t, 1000)) {
            return OUTSIDE;
        }
        workOutShares();
        return restOfShares[0][t] == NO ? NONE : restOfShares[0][t];
    }

    int shareTime(int t, int leg) {
        if (!isLeg(leg)) {
            return UNKNOWN;
        }
        if (!within(0, t, 1000)) {
            return OUTSIDE;
        }
        workOutShares();
        if (restOfShares[0][t] == NO) {
            return NONE;
        }
        int left = t;
        for (int before = 0; before < leg; before++) {
            left -= leastShare(before, left);
        }
        return leastShare(leg, left);
    }

    private int leastShare(int leg, int left) {
        int[] byTime = restOfWay[stopPost(leg)][0];
        for (int at = 0; at <= left; at++) {
            int rest = restOfShares[leg + 1][left - at];
            if (byTime[at] != NO && rest != NO && byTime[at] + rest == restOfShares[leg][left]) {
                return at;
            }
        }
        throw new IllegalStateException("the sharing ends");
    }

    int needs(int power) {
        for (int t = 0; t <= 1000; t++) {
            if (share(t) != NONE && share(t) <= power) {
                return t;
            }
        }
        return NONE;
    }

    int log(int speed) {
        if (!within(0, speed, 6)) {
            return OUTSIDE;
        }
        if (told.size() == grades.length + 1) {
            return FULL;
        }
        told.add(speed);
        return told.size();
    }

    int clear() {
        int before = told.size();
        told.clear();
        return before;
    }

    int judged(int what) {
        int[] sums = {0, 0, 0, NONE, 0};
        for (int post = 0; post < told.size(); post++) {
            sums[4] += stops[post] && told.get(post) > 0 ? 1 : 0;
            if (post == 0) {
                continue;
            }
            int u = told.get(post - 1);
            int v = told.get(post);
            if (fault(post - 1, u, v) == 0) {
                sums[0] += time(post - 1, u, v);
                sums[1] += power(post - 1, u, v);
            } else {
                sums[2]++;
                sums[3] = sums[3] == NONE ? post - 1 : sums[3];
            }
        }
        return within(0, what, 4) ? sums[what] : OUTSIDE;
    }

    int count(int what) {
        return what == 0 ? grades.length : what == 1 ? legs() : what == 2 ? told.size() : OUTSIDE;
    }
}
