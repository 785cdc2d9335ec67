/**
 * Every call with each of its numbers inside its range, at both ends of it, beside it and far out, in all
 * combinations: what is refused, with which refusal where several come together, and what the others answer.
 */
public final class RefusalTests {
    private static final int UNKNOWN = -1, OUTSIDE = -2, STATE = -3, FULL = -4, NONE = -1000000;
    private static final int LOWEST = Integer.MIN_VALUE, HIGHEST = Integer.MAX_VALUE;
    private static final int[] SIZES = {1, 2, 16};
    private static final int[] TRAIN_LEAST = {1, 0, 1, 1, 0};
    private static final int[] TRAIN_MOST = {20, 20, 400, 400, 10};
    private static final int[] TRAIN_FIRST = {1, 1, 100, 100, 0};
    // Leg 0 of withTwoLegs has three flat cells, leg 1 two: their curves, worked out by hand.
    private static final int[][] CURVE_TIMES = {{75, 110, 150}, {60, 120}};
    private static final int[][] CURVE_POWERS = {{10, 6, 4}, {6, 2}};
    private static final int[][][] CURVE_SPEEDS = {{{0, 2, 2, 0}, {0, 2, 1, 0}, {0, 1, 1, 0}}, {{0, 2, 0}, {0, 1, 0}}};
    private static final int[] LEG_POSTS = {0, 3, 5};
    private static final TestKit KIT = new TestKit();

    public static void main(String[] args) {
        line();
        cell();
        stop();
        train();
        has();
        leg();
        steps();
        wayOfALeg();
        waysForATime();
        speedsOfAWay();
        pointsOfACurve();
        share();
        shareTime();
        needs();
        log();
        logThatIsFull();
        judged();
        count();
        legWithoutAWay();
        KIT.finish();
    }

    private static void due(String what, int got, int want) {
        KIT.due(what, got, want);
    }

    /** Both ends of a range and of int, their neighbours, and numbers like inner ones if cut to 8 or 16 bits. */
    private static int[] around(int least, int most) {
        return new int[] {LOWEST, LOWEST + 1, LOWEST + least, least - 65536, least - 256, least - 2, least - 1, least,
            (least + most) / 2, most, most + 1, most + 2, most + 256, most + 65536, HIGHEST - 1, HIGHEST};
    }

    private static boolean within(int least, int v, int most) {
        return v >= least && v <= most;
    }

    private static CoastPull withCells(int n) {
        CoastPull x = new CoastPull();
        x.line(n);
        return x;
    }

    private static CoastPull withTwoLegs() {
        CoastPull x = withCells(5);
        x.stop(3, true);
        return x;
    }

    private static void line() {
        for (int before : SIZES) {
            for (int n : around(1, 16)) {
                CoastPull x = withCells(before);
                boolean may = within(1, n, 16);
                due("P2 line(" + n + ")", x.line(n), may ? before : OUTSIDE);
                due("P2 cells after line(" + n + ")", x.count(0), may ? n : before);
            }
        }
    }

    private static void cell() {
        for (int n : SIZES) {
            for (int k : around(0, n - 1)) {
                for (int grade : around(-4, 4)) {
                    CoastPull x = withCells(n);
                    int limitBefore = 6;
                    for (int limit : around(1, 6)) {
                        boolean fits = within(-4, grade, 4) && within(1, limit, 6);
                        int want = !within(0, k, n - 1) ? UNKNOWN : fits ? limitBefore : OUTSIDE;
                        due("P3 cell(" + k + ", " + grade + ", " + limit + ")", x.cell(k, grade, limit), want);
                        limitBefore = want > 0 ? limit : limitBefore;
                    }
                }
            }
        }
    }

    private static void stop() {
        for (int n : SIZES) {
            for (int post : around(0, n)) {
                for (boolean is : new boolean[] {true, false}) {
                    CoastPull x = withCells(n);
                    boolean isInner = post > 0 && post < n;
                    int want = !within(0, post, n) ? UNKNOWN : !isInner ? STATE : is ? 2 : 1;
                    due("P4 stop(" + post + ", " + is + ") of " + n, x.stop(post, is), want);
                    due("P4 legs after it", x.count(1), want > 0 ? want : 1);
                }
            }
        }
    }

    private static void train() {
        for (int what : around(0, 4)) {
            boolean isKnown = within(0, what, 4);
            int least = isKnown ? TRAIN_LEAST[what] : 0;
            int most = isKnown ? TRAIN_MOST[what] : 1;
            for (int v : around(least, most)) {
                CoastPull x = new CoastPull();
                boolean may = isKnown && within(least, v, most);
                due("P5 train(" + what + ", " + v + ")", x.train(what, v), may ? TRAIN_FIRST[what] : OUTSIDE);
                due("P6 has(" + what + ") after " + v, x.has(what),
                    !isKnown ? OUTSIDE : may ? v : TRAIN_FIRST[what]);
            }
        }
    }

    private static void has() {
        CoastPull x = new CoastPull();
        for (int what : around(0, 4)) {
            due("P6 has(" + what + ")", x.has(what), within(0, what, 4) ? TRAIN_FIRST[what] : OUTSIDE);
        }
    }

    private static void leg() {
        CoastPull x = withTwoLegs();
        for (int leg : around(0, 1)) {
            boolean is = within(0, leg, 1);
            due("P7 first post of " + leg, x.leg(leg, false), is ? LEG_POSTS[leg] : UNKNOWN);
            due("P7 last post of " + leg, x.leg(leg, true), is ? LEG_POSTS[leg + 1] : UNKNOWN);
        }
    }

    // The train as at first on a flat line: neither its pull nor its brake stands against any step two apart.
    private static void steps() {
        for (int n : SIZES) {
            for (int k : around(0, n - 1)) {
                for (int u : around(0, 6)) {
                    CoastPull x = withCells(n);
                    for (int v : around(0, 6)) {
                        stepOf(x, n, k, u, v);
                    }
                }
            }
        }
    }

    private static void stepOf(CoastPull x, int n, int k, int u, int v) {
        String step = "(" + k + ", " + u + ", " + v + ")";
        boolean isCell = within(0, k, n - 1);
        if (!isCell || !within(0, u, 6) || !within(0, v, 6)) {
            int refusal = isCell ? OUTSIDE : UNKNOWN;
            due("P8 force" + step, x.force(k, u, v), refusal);
            due("P9 fault" + step, x.fault(k, u, v), refusal);
            due("P10 time" + step, x.time(k, u, v), refusal);
            due("P11 power" + step, x.power(k, u, v), refusal);
            return;
        }
        int force = v * v - u * u + u + v;
        int fault = u + v == 0 ? 2 : u - v > 2 || v - u > 2 ? 3 : 0;
        due("P8 force" + step, x.force(k, u, v), force);
        due("P9 fault" + step, x.fault(k, u, v), fault);
        due("P10 time" + step, x.time(k, u, v), fault != 0 ? NONE : 60 / (u + v));
        due("P11 power" + step, x.power(k, u, v), fault != 0 ? NONE : Math.max(0, force));
    }

    private static void wayOfALeg() {
        CoastPull x = withTwoLegs();
        for (int leg : around(0, 1)) {
            boolean is = within(0, leg, 1);
            due("P12 fastest(" + leg + ")", x.fastest(leg), is ? CURVE_TIMES[leg][0] : UNKNOWN);
            due("P16 curve(" + leg + ")", x.curve(leg), is ? CURVE_TIMES[leg].length : UNKNOWN);
        }
    }

    /** The last pair of a leg's curve within a time, -1 if there is none. */
    private static int pairWithin(int leg, int t) {
        int pair = -1;
        while (pair + 1 < CURVE_TIMES[leg].length && CURVE_TIMES[leg][pair + 1] <= t) {
            pair++;
        }
        return pair;
    }

    private static int[] times() {
        int[] edges = {0, 1, 59, 60, 74, 75, 109, 110, 119, 120, 149, 150, 999, 1000};
        int[] far = around(0, 1000);
        int[] both = java.util.Arrays.copyOf(edges, edges.length + far.length);
        System.arraycopy(far, 0, both, edges.length, far.length);
        return both;
    }

    private static void waysForATime() {
        for (int leg : around(0, 1)) {
            CoastPull x = withTwoLegs();
            for (int t : times()) {
                boolean isLeg = within(0, leg, 1);
                boolean isRefused = !isLeg || !within(0, t, 1000);
                int pair = isRefused ? -1 : pairWithin(leg, t);
                int without = !isLeg ? UNKNOWN : isRefused ? OUTSIDE : NONE;
                String call = "(" + leg + ", " + t + ")";
                due("P13 best" + call, x.best(leg, t), pair < 0 ? without : CURVE_POWERS[leg][pair]);
                due("P14 bestTime" + call, x.bestTime(leg, t), pair < 0 ? without : CURVE_TIMES[leg][pair]);
            }
        }
    }

    private static void speedsOfAWay() {
        for (int leg : around(0, 1)) {
            for (int post : around(0, 5)) {
                CoastPull x = withTwoLegs();
                for (int t : times()) {
                    due("P15 bestSpeed(" + leg + ", " + t + ", " + post + ")", x.bestSpeed(leg, t, post),
                        speedDue(leg, t, post));
                }
                for (int inner = 1; inner < 5; inner++) {
                    due("P15 bestSpeed(" + leg + ", 130, " + inner + ")", x.bestSpeed(leg, 130, inner),
                        speedDue(leg, 130, inner));
                }
            }
        }
    }

    private static int speedDue(int leg, int t, int post) {
        if (!within(0, leg, 1) || !within(0, post, 5)) {
            return UNKNOWN;
        }
        if (!within(0, t, 1000)) {
            return OUTSIDE;
        }
        int pair = pairWithin(leg, t);
        boolean isOfLeg = within(LEG_POSTS[leg], post, LEG_POSTS[leg + 1]);
        return pair < 0 || !isOfLeg ? NONE : CURVE_SPEEDS[leg][pair][post - LEG_POSTS[leg]];
    }

    private static void pointsOfACurve() {
        CoastPull x = withTwoLegs();
        for (int leg : around(0, 1)) {
            for (int i : around(0, leg == 0 ? 2 : 1)) {
                boolean isLeg = within(0, leg, 1);
                boolean isPair = isLeg && within(0, i, CURVE_TIMES[leg].length - 1);
                int without = isLeg ? NONE : UNKNOWN;
                String call = "(" + leg + ", " + i + ", ";
                due("P17 point" + call + "false)", x.point(leg, i, false), isPair ? CURVE_TIMES[leg][i] : without);
                due("P17 point" + call + "true)", x.point(leg, i, true), isPair ? CURVE_POWERS[leg][i] : without);
            }
        }
    }

    /** The best pairs of both legs for a time together, null if there are none. */
    private static int[] pairsTogether(int t) {
        int[] best = null;
        int least = 0;
        for (int one = 0; one < 3; one++) {
            for (int other = 0; other < 2; other++) {
                int power = CURVE_POWERS[0][one] + CURVE_POWERS[1][other];
                if (CURVE_TIMES[0][one] + CURVE_TIMES[1][other] <= t && (best == null || power < least)) {
                    best = new int[] {one, other};
                    least = power;
                }
            }
        }
        return best;
    }

    private static void share() {
        CoastPull x = withTwoLegs();
        for (int t : times()) {
            int[] pairs = pairsTogether(t);
            int there = pairs == null ? NONE : CURVE_POWERS[0][pairs[0]] + CURVE_POWERS[1][pairs[1]];
            due("P18 share(" + t + ")", x.share(t), within(0, t, 1000) ? there : OUTSIDE);
        }
    }

    private static void shareTime() {
        for (int leg : around(0, 1)) {
            CoastPull x = withTwoLegs();
            for (int t : times()) {
                boolean isLeg = within(0, leg, 1);
                int[] pairs = pairsTogether(t);
                int there = !isLeg || pairs == null ? NONE : CURVE_TIMES[leg][pairs[leg]];
                int want = !isLeg ? UNKNOWN : within(0, t, 1000) ? there : OUTSIDE;
                due("P19 shareTime(" + t + ", " + leg + ")", x.shareTime(t, leg), want);
            }
        }
    }

    private static void needs() {
        CoastPull x = withTwoLegs();
        for (int power : around(6, 16)) {
            int want = power >= 16 ? 135 : power == 11 ? 210 : power == 6 ? 270 : NONE;
            due("P20 needs(" + power + ")", x.needs(power), want);
        }
    }

    private static void log() {
        for (int speed : around(0, 6)) {
            CoastPull x = withCells(2);
            boolean may = within(0, speed, 6);
            due("P21 log(" + speed + ")", x.log(speed), may ? 1 : OUTSIDE);
            due("P24 speeds after log(" + speed + ")", x.count(2), may ? 1 : 0);
        }
    }

    private static void logThatIsFull() {
        for (int n : SIZES) {
            CoastPull x = withCells(n);
            for (int post = 0; post <= n; post++) {
                due("P21 post " + post + " of " + n, x.log(6), post + 1);
            }
            for (int speed : around(0, 6)) {
                due("P21 full: log(" + speed + ")", x.log(speed), within(0, speed, 6) ? FULL : OUTSIDE);
                due("P24 speeds of a full log", x.count(2), n + 1);
            }
        }
    }

    private static void judged() {
        CoastPull x = new CoastPull();
        x.log(6);
        int[] wanted = {0, 0, 0, NONE, 1};
        for (int what : around(0, 4)) {
            due("P23 judged(" + what + ")", x.judged(what), within(0, what, 4) ? wanted[what] : OUTSIDE);
        }
    }

    private static void count() {
        CoastPull x = withTwoLegs();
        x.log(3);
        int[] wanted = {5, 2, 1};
        for (int what : around(0, 2)) {
            due("P24 count(" + what + ")", x.count(what), within(0, what, 2) ? wanted[what] : OUTSIDE);
        }
    }

    // A leg that is not there, a post and a time come before it that there is no way.
    private static void legWithoutAWay() {
        CoastPull x = new CoastPull();
        due("P12 no way", x.fastest(0), NONE);
        due("P16 no way", x.curve(0), 0);
        due("P20 no way", x.needs(HIGHEST), NONE);
        for (int t : around(0, 1000)) {
            boolean may = within(0, t, 1000);
            due("P13 no way " + t, x.best(0, t), may ? NONE : OUTSIDE);
            due("P14 no way " + t, x.bestTime(0, t), may ? NONE : OUTSIDE);
            due("P18 no way " + t, x.share(t), may ? NONE : OUTSIDE);
            due("P19 no way " + t, x.shareTime(t, 0), may ? NONE : OUTSIDE);
            due("P19 no leg " + t, x.shareTime(t, 1), UNKNOWN);
            for (int post : new int[] {LOWEST, -1, 0, 1, 2, HIGHEST}) {
                int want = !within(0, post, 1) ? UNKNOWN : may ? NONE : OUTSIDE;
                due("P15 no way " + t + ", " + post, x.bestSpeed(0, t, post), want);
            }
        }
        for (int i : around(0, 0)) {
            due("P17 no way " + i, x.point(0, i, false), NONE);
            due("P17 no way " + i, x.point(0, i, true), NONE);
        }
    }
}
