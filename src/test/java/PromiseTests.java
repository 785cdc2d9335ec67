/** Each promise on its own, with answers worked out by hand from the document. */
public final class PromiseTests {
    private static final int UNKNOWN = -1, OUTSIDE = -2, STATE = -3, FULL = -4, NONE = -1000000;
    private static final int LOWEST = Integer.MIN_VALUE, HIGHEST = Integer.MAX_VALUE;
    private static final TestKit KIT = new TestKit();

    private static void due(String what, long got, long want) {
        KIT.due(what, got, want);
    }

    public static void main(String[] args) {
        constants();
        newObject();
        line();
        lineForgetsAll();
        cell();
        stop();
        train();
        leg();
        force();
        fault();
        time();
        power();
        curveOfThreeCells();
        likeWays();
        waysBoundByLimits();
        waysThatAreNot();
        waysRefused();
        waysFollowChanges();
        sharing();
        sharingWithGains();
        sharingThatIsNot();
        sharingFollowsChanges();
        sharingOfManyLegs();
        legsOfOneCell();
        log();
        judged();
        judgedWithFaults();
        judgedAfresh();
        refusedChangesNothing();
        KIT.finish();
    }

    private static CoastPull withCells(int n) {
        CoastPull x = new CoastPull();
        x.line(n);
        return x;
    }

    private static void logAll(CoastPull x, int... speeds) {
        for (int speed : speeds) {
            x.log(speed);
        }
    }

    private static void constants() {
        due("UNKNOWN", CoastPull.UNKNOWN, UNKNOWN);
        due("OUTSIDE", CoastPull.OUTSIDE, OUTSIDE);
        due("STATE", CoastPull.STATE, STATE);
        due("FULL", CoastPull.FULL, FULL);
        due("NONE", CoastPull.NONE, NONE);
    }

    private static void newObject() {
        CoastPull x = new CoastPull();
        int[] first = {1, 1, 100, 100, 0};
        for (int what = 0; what < 5; what++) {
            due("P1 has(" + what + ")", x.has(what), first[what]);
        }
        due("P1 cells", x.count(0), 1);
        due("P1 legs", x.count(1), 1);
        due("P1 speeds", x.count(2), 0);
        due("P1 no grade", x.force(0, 1, 1), 2);
        due("P1 limit", x.cell(0, 0, 6), 6);
        due("P1 no second cell", x.cell(1, 0, 6), UNKNOWN);
        due("P1 first post", x.leg(0, false), 0);
        due("P1 last post", x.leg(0, true), 1);
    }

    private static void line() {
        CoastPull x = new CoastPull();
        due("P2 line(16)", x.line(16), 1);
        due("P2 count", x.count(0), 16);
        due("P2 last post", x.leg(0, true), 16);
        due("P2 line(0)", x.line(0), OUTSIDE);
        due("P2 line(17)", x.line(17), OUTSIDE);
        due("P2 line(lowest)", x.line(LOWEST), OUTSIDE);
        due("P2 line(highest)", x.line(HIGHEST), OUTSIDE);
        due("P2 still 16", x.count(0), 16);
        due("P2 line(2)", x.line(2), 16);
        due("P2 line(1)", x.line(1), 2);
        due("P2 line(1) again", x.line(1), 1);
    }

    private static void lineForgetsAll() {
        CoastPull x = withCells(4);
        x.cell(1, 3, 2);
        x.cell(3, -4, 1);
        x.stop(2, true);
        x.train(0, 7);
        logAll(x, 0, 1);
        due("P2 line(4)", x.line(4), 4);
        due("P2 no stop", x.count(1), 1);
        due("P2 empty log", x.count(2), 0);
        due("P2 the train stays", x.has(0), 7);
        due("P2 grade as at first", x.force(1, 1, 1), 2);
        due("P2 limit as at first", x.cell(3, 0, 6), 6);
        due("P2 limit as at first", x.cell(1, 0, 6), 6);
        x.cell(3, 4, 1);
        x.stop(3, true);
        x.line(3);
        due("P2 fewer cells, one leg", x.count(1), 1);
        due("P2 its last post is an end", x.stop(3, false), STATE);
        x.line(4);
        due("P2 an end before is no stop", x.count(1), 1);
        due("P2 it can be one", x.stop(3, true), 2);
        due("P2 a cell that comes back", x.force(3, 1, 1), 2);
        due("P2 its limit", x.cell(3, 0, 5), 6);
    }

    private static void cell() {
        CoastPull x = withCells(3);
        due("P3 cell", x.cell(1, 4, 1), 6);
        due("P3 before", x.cell(1, -4, 6), 1);
        due("P3 grade", x.force(1, 2, 2), 0);
        due("P3 another cell", x.force(0, 2, 2), 4);
        due("P3 below", x.cell(-1, 0, 6), UNKNOWN);
        due("P3 above", x.cell(3, 0, 6), UNKNOWN);
        due("P3 highest", x.cell(HIGHEST, 9, 9), UNKNOWN);
        due("P3 lowest", x.cell(LOWEST, 9, 9), UNKNOWN);
        due("P3 grade 5", x.cell(1, 5, 3), OUTSIDE);
        due("P3 grade -5", x.cell(1, -5, 3), OUTSIDE);
        due("P3 limit 0", x.cell(1, 2, 0), OUTSIDE);
        due("P3 limit 7", x.cell(1, 2, 7), OUTSIDE);
        due("P3 extremes", x.cell(1, LOWEST, HIGHEST), OUTSIDE);
        due("P3 grade stays", x.force(1, 2, 2), 0);
        due("P3 limit stays", x.cell(1, 0, 6), 6);
    }

    private static void stop() {
        CoastPull x = withCells(5);
        due("P4 stop", x.stop(2, true), 2);
        due("P4 again", x.stop(2, true), 2);
        due("P4 none taken away", x.stop(3, false), 2);
        due("P4 second", x.stop(4, true), 3);
        due("P4 taken away", x.stop(2, false), 2);
        due("P4 the other stays", x.leg(0, true), 4);
        due("P4 first end", x.stop(0, false), STATE);
        due("P4 last end", x.stop(5, true), STATE);
        due("P4 below", x.stop(-1, true), UNKNOWN);
        due("P4 above", x.stop(6, false), UNKNOWN);
        due("P4 highest", x.stop(HIGHEST, true), UNKNOWN);
        due("P4 lowest", x.stop(LOWEST, true), UNKNOWN);
        due("P4 legs", x.count(1), 2);
    }

    private static void train() {
        CoastPull x = new CoastPull();
        int[] least = {1, 0, 1, 1, 0};
        int[] most = {20, 20, 400, 400, 10};
        int[] first = {1, 1, 100, 100, 0};
        for (int what = 0; what < 5; what++) {
            due("P5 to the most " + what, x.train(what, most[what]), first[what]);
            due("P5 over the most " + what, x.train(what, most[what] + 1), OUTSIDE);
            due("P6 the most " + what, x.has(what), most[what]);
            due("P5 to the least " + what, x.train(what, least[what]), most[what]);
            due("P5 under the least " + what, x.train(what, least[what] - 1), OUTSIDE);
            due("P5 highest " + what, x.train(what, HIGHEST), OUTSIDE);
            due("P5 lowest " + what, x.train(what, LOWEST), OUTSIDE);
            due("P6 the least " + what, x.has(what), least[what]);
            x.train(what, first[what]);
        }
        for (int what : new int[] {-1, 5, LOWEST, HIGHEST}) {
            due("P5 what " + what, x.train(what, 1), OUTSIDE);
            due("P6 what " + what, x.has(what), OUTSIDE);
        }
    }

    private static void leg() {
        CoastPull x = withCells(6);
        x.stop(4, true);
        x.stop(1, true);
        int[] posts = {0, 1, 4, 6};
        for (int leg = 0; leg < 3; leg++) {
            due("P7 first " + leg, x.leg(leg, false), posts[leg]);
            due("P7 last " + leg, x.leg(leg, true), posts[leg + 1]);
        }
        for (int leg : new int[] {-1, 3, LOWEST, HIGHEST}) {
            due("P7 first " + leg, x.leg(leg, false), UNKNOWN);
            due("P7 last " + leg, x.leg(leg, true), UNKNOWN);
        }
        due("P24 legs", x.count(1), 3);
        due("P24 cells", x.count(0), 6);
        due("P24 what", x.count(3), OUTSIDE);
        due("P24 what", x.count(-1), OUTSIDE);
        due("P24 what", x.count(HIGHEST), OUTSIDE);
        due("P24 what", x.count(LOWEST), OUTSIDE);
    }

    private static void force() {
        CoastPull x = withCells(2);
        x.train(0, 3);
        x.train(1, 5);
        x.cell(1, -2, 2);
        due("P8 faster", x.force(0, 1, 3), 3 * 8 + 5 * 4);
        due("P8 slower", x.force(0, 3, 1), -3 * 8 + 5 * 4);
        due("P8 down", x.force(1, 2, 2), -6 + 20);
        due("P8 of no step", x.force(1, 0, 6), 108 - 6 + 30);
        due("P8 of rest", x.force(1, 0, 0), -6);
        refusalsOfSteps("P8", (x1, cell, u, v) -> x1.force(cell, u, v));
    }

    private interface StepCall {
        int on(CoastPull x, int cell, int u, int v);
    }

    private static void refusalsOfSteps(String promise, StepCall call) {
        CoastPull x = withCells(2);
        for (int cell : new int[] {-1, 2, LOWEST, HIGHEST}) {
            due(promise + " cell " + cell, call.on(x, cell, 1, 1), UNKNOWN);
            due(promise + " cell first " + cell, call.on(x, cell, 7, -1), UNKNOWN);
        }
        for (int speed : new int[] {-1, 7, LOWEST, HIGHEST}) {
            due(promise + " u " + speed, call.on(x, 1, speed, 1), OUTSIDE);
            due(promise + " v " + speed, call.on(x, 1, 1, speed), OUTSIDE);
        }
    }

    private static void fault() {
        CoastPull x = withCells(2);
        x.cell(1, 0, 4);
        due("P9 none", x.fault(0, 2, 4), 0);
        due("P9 at the limit", x.fault(1, 4, 4), 0);
        due("P9 u above", x.fault(1, 5, 4), 1);
        due("P9 v above", x.fault(1, 4, 5), 1);
        due("P9 above before apart", x.fault(1, 0, 6), 1);
        due("P9 rest", x.fault(1, 0, 0), 2);
        due("P9 two apart", x.fault(0, 0, 2), 0);
        due("P9 three up", x.fault(0, 1, 4), 3);
        due("P9 three down", x.fault(0, 4, 1), 3);
        x.train(2, 18);
        due("P9 at the pull", x.fault(0, 2, 4), 0);
        x.train(2, 17);
        due("P9 over the pull", x.fault(0, 2, 4), 4);
        due("P9 apart before the pull", x.fault(0, 1, 5), 3);
        x.train(3, 6);
        due("P9 at the brake", x.fault(0, 4, 2), 0);
        x.train(3, 5);
        due("P9 over the brake", x.fault(0, 4, 2), 5);
        due("P9 apart before the brake", x.fault(0, 5, 1), 3);
        refusalsOfSteps("P9", (x1, cell, u, v) -> x1.fault(cell, u, v));
    }

    private static void time() {
        CoastPull x = withCells(2);
        int[] bySum = {0, 60, 30, 20, 15, 12, 10, 8, 7, 6, 6, 5, 5};
        for (int u = 0; u <= 6; u++) {
            for (int v = 0; v <= 6; v++) {
                boolean may = u + v > 0 && Math.abs(u - v) <= 2;
                due("P10 " + u + " to " + v, x.time(0, u, v), may ? bySum[u + v] : NONE);
            }
        }
        x.cell(1, 0, 3);
        due("P10 above the limit", x.time(1, 3, 4), NONE);
        x.train(2, 17);
        due("P10 over the pull", x.time(0, 2, 4), NONE);
        x.train(3, 5);
        due("P10 over the brake", x.time(0, 4, 2), NONE);
        refusalsOfSteps("P10", (x1, cell, u, v) -> x1.time(cell, u, v));
    }

    private static void power() {
        CoastPull x = withCells(2);
        due("P11 pulls", x.power(0, 2, 4), 18);
        due("P11 gives nothing back", x.power(0, 4, 2), 0);
        due("P11 no force", x.power(0, 1, 0), 0);
        x.train(4, 10);
        due("P11 gives all back", x.power(0, 4, 2), -6);
        x.train(4, 7);
        due("P11 cut towards 0", x.power(0, 4, 2), -4);
        x.train(4, 1);
        due("P11 cut to 0", x.power(0, 4, 2), 0);
        due("P11 pull is as before", x.power(0, 2, 4), 18);
        due("P11 rest", x.power(0, 0, 0), NONE);
        due("P11 apart", x.power(0, 0, 3), NONE);
        x.cell(1, 0, 3);
        due("P11 above the limit", x.power(1, 3, 4), NONE);
        x.train(2, 17);
        due("P11 over the pull", x.power(0, 2, 4), NONE);
        x.train(3, 5);
        due("P11 over the brake", x.power(0, 4, 2), NONE);
        refusalsOfSteps("P11", (x1, cell, u, v) -> x1.power(cell, u, v));
    }

    // Over three flat cells a train as at first has four ways: 1 1 (time 150, power 4), 1 2 (110, 8), 2 1 (110, 6),
    // 2 2 (75, 10).
    private static void curveOfThreeCells() {
        CoastPull x = withCells(3);
        int[] times = {75, 110, 150};
        int[] powers = {10, 6, 4};
        int[][] speeds = {{0, 2, 2, 0}, {0, 2, 1, 0}, {0, 1, 1, 0}};
        due("P12 fastest", x.fastest(0), 75);
        due("P16 pairs", x.curve(0), 3);
        for (int i = 0; i < 3; i++) {
            due("P17 time " + i, x.point(0, i, false), times[i]);
            due("P17 power " + i, x.point(0, i, true), powers[i]);
            int until = i == 2 ? 1000 : times[i + 1] - 1;
            for (int t : new int[] {times[i], until}) {
                due("P13 best at " + t, x.best(0, t), powers[i]);
                due("P14 time at " + t, x.bestTime(0, t), times[i]);
                for (int post = 0; post <= 3; post++) {
                    due("P15 speed at " + t + ", " + post, x.bestSpeed(0, t, post), speeds[i][post]);
                }
            }
        }
        for (int t : new int[] {0, 74}) {
            due("P13 too soon " + t, x.best(0, t), NONE);
            due("P14 too soon " + t, x.bestTime(0, t), NONE);
            due("P15 too soon " + t, x.bestSpeed(0, t, 1), NONE);
        }
        for (int i : new int[] {-1, 3, LOWEST, HIGHEST}) {
            due("P17 no pair " + i, x.point(0, i, false), NONE);
            due("P17 no pair " + i, x.point(0, i, true), NONE);
        }
    }

    private static void likeWays() {
        CoastPull x = withCells(3);
        // With all given back, 1 2 and 2 1 take 6 both, in 110 both.
        x.train(4, 10);
        due("P13 like ways", x.best(0, 110), 6);
        due("P15 first by speeds, post 1", x.bestSpeed(0, 110, 1), 1);
        due("P15 first by speeds, post 2", x.bestSpeed(0, 110, 2), 2);
        due("P16 like ways are one pair", x.curve(0), 3);
        due("P17 fastest gives back", x.point(0, 0, true), 8);
        // Without drag, every way takes 0: the fastest is the best one.
        x.train(1, 0);
        due("P16 one pair", x.curve(0), 1);
        due("P13 power 0", x.best(0, 1000), 0);
        due("P14 the least time", x.bestTime(0, 1000), 75);
        due("P15 its speed", x.bestSpeed(0, 1000, 2), 2);
    }

    private static void waysBoundByLimits() {
        CoastPull x = withCells(16);
        due("P12 0 2 4 6 .. 6 4 2 0", x.fastest(0), 30 + 10 + 6 + 10 * 5 + 6 + 10 + 30);
        for (int k = 0; k < 16; k++) {
            x.cell(k, 0, 1);
        }
        due("P12 the slowest way", x.fastest(0), 540);
        due("P16 the only way", x.curve(0), 1);
        due("P13 below it", x.best(0, 539), NONE);
        due("P13 at it", x.best(0, 540), 32 - 2);
        for (int post = 0; post <= 16; post++) {
            due("P15 at " + post, x.bestSpeed(0, 540, post), post % 16 == 0 ? 0 : 1);
        }
        for (int k = 0; k < 16; k++) {
            x.cell(k, 0, 6);
        }
        x.train(0, 20);
        x.train(1, 20);
        x.train(2, 400);
        x.train(3, 400);
        // 0 2 4 6 6 .. 6 4 2 0 would be the fastest; 4 to 6 takes 600, 3 to 5 480, 4 to 5 360, 5 to 6 440.
        due("P9 4 to 6", x.fault(3, 4, 6), 4);
        due("P9 5 to 6", x.fault(3, 5, 6), 4);
        due("P9 6 to 6", x.fault(3, 6, 6), 0);
        due("P12 fastest at 5", x.fastest(0), 30 + 10 + 6 + 10 * 6 + 6 + 10 + 30);
    }

    private static void waysThatAreNot() {
        CoastPull x = new CoastPull();
        due("P12 one cell", x.fastest(0), NONE);
        due("P13 one cell", x.best(0, 1000), NONE);
        due("P14 one cell", x.bestTime(0, 1000), NONE);
        due("P15 one cell", x.bestSpeed(0, 1000, 1), NONE);
        due("P16 one cell", x.curve(0), 0);
        due("P17 one cell", x.point(0, 0, true), NONE);
        x.line(2);
        due("P12 two cells", x.fastest(0), 60);
        x.train(2, 1);
        due("P12 no pull", x.fastest(0), NONE);
        due("P16 no pull", x.curve(0), 0);
        x.train(2, 2);
        due("P12 just enough pull", x.fastest(0), 120);
        due("P13 just enough pull", x.best(0, 120), 2);
    }

    private static void waysRefused() {
        CoastPull x = withCells(5);
        x.stop(3, true);
        for (int leg : new int[] {-1, 2, LOWEST, HIGHEST}) {
            due("P12 leg " + leg, x.fastest(leg), UNKNOWN);
            due("P13 leg " + leg, x.best(leg, 1001), UNKNOWN);
            due("P14 leg " + leg, x.bestTime(leg, -1), UNKNOWN);
            due("P15 leg " + leg, x.bestSpeed(leg, 1001, 1), UNKNOWN);
            due("P16 leg " + leg, x.curve(leg), UNKNOWN);
            due("P17 leg " + leg, x.point(leg, -1, true), UNKNOWN);
        }
        for (int t : new int[] {-1, 1001, LOWEST, HIGHEST}) {
            due("P13 t " + t, x.best(1, t), OUTSIDE);
            due("P14 t " + t, x.bestTime(1, t), OUTSIDE);
            due("P15 t " + t, x.bestSpeed(1, t, 4), OUTSIDE);
            due("P15 t before the leg's posts " + t, x.bestSpeed(1, t, 1), OUTSIDE);
        }
        for (int post : new int[] {-1, 6, LOWEST, HIGHEST}) {
            due("P15 post " + post, x.bestSpeed(1, 500, post), UNKNOWN);
            due("P15 post before t " + post, x.bestSpeed(1, -1, post), UNKNOWN);
        }
        due("P15 before the leg", x.bestSpeed(1, 500, 2), NONE);
        due("P15 behind the leg", x.bestSpeed(0, 500, 4), NONE);
        due("P15 its first post", x.bestSpeed(1, 500, 3), 0);
        due("P15 its last post", x.bestSpeed(0, 500, 3), 0);
        due("P15 inside", x.bestSpeed(1, 500, 4), 1);
        due("P13 t 1000", x.best(1, 1000), 2);
        due("P13 t 0", x.best(1, 0), NONE);
    }

    private static void waysFollowChanges() {
        CoastPull x = withCells(3);
        due("P12 at first", x.fastest(0), 75);
        x.cell(1, 0, 1);
        due("P12 after cell", x.fastest(0), 150);
        x.cell(1, 0, 6);
        x.train(1, 2);
        due("P13 after train", x.best(0, 1000), 3 + 4 + 1);
        x.stop(2, true);
        due("P12 after stop, leg 0", x.fastest(0), 60);
        due("P12 after stop, leg 1", x.fastest(1), NONE);
        x.line(2);
        due("P12 after line", x.fastest(0), 60);
        due("P12 after line, leg 1", x.fastest(1), UNKNOWN);
    }

    // Leg 0 has three flat cells, with (75, 10), (110, 6), (150, 4); leg 1 has two, with (60, 6), (120, 2).
    private static void sharing() {
        CoastPull x = withCells(5);
        x.stop(3, true);
        int[][] rows = {{135, 16, 75, 60}, {169, 16, 75, 60}, {170, 12, 110, 60}, {194, 12, 110, 60},
            {195, 12, 75, 120}, {209, 12, 75, 120}, {210, 10, 150, 60}, {229, 10, 150, 60}, {230, 8, 110, 120},
            {269, 8, 110, 120}, {270, 6, 150, 120}, {1000, 6, 150, 120}};
        for (int[] row : rows) {
            due("P18 share " + row[0], x.share(row[0]), row[1]);
            due("P19 leg 0 of " + row[0], x.shareTime(row[0], 0), row[2]);
            due("P19 leg 1 of " + row[0], x.shareTime(row[0], 1), row[3]);
        }
        int[][] needs = {{HIGHEST, 135}, {16, 135}, {15, 170}, {12, 170}, {11, 210}, {10, 210}, {9, 230}, {8, 230},
            {7, 270}, {6, 270}, {5, NONE}, {-1, NONE}, {LOWEST, NONE}};
        for (int[] row : needs) {
            due("P20 needs " + row[0], x.needs(row[0]), row[1]);
        }
        for (int t : new int[] {0, 134}) {
            due("P18 too soon " + t, x.share(t), NONE);
            due("P19 too soon " + t, x.shareTime(t, 1), NONE);
        }
        for (int t : new int[] {-1, 1001, LOWEST, HIGHEST}) {
            due("P18 t " + t, x.share(t), OUTSIDE);
            due("P19 t " + t, x.shareTime(t, 1), OUTSIDE);
        }
        for (int leg : new int[] {-1, 2, LOWEST, HIGHEST}) {
            due("P19 leg " + leg, x.shareTime(500, leg), UNKNOWN);
            due("P19 leg before t " + leg, x.shareTime(1001, leg), UNKNOWN);
        }
    }

    // Without drag and with all given back, 0 1 0 and 0 2 0 downwards give 8 times the weight back.
    private static void sharingWithGains() {
        CoastPull x = withCells(4);
        x.stop(2, true);
        x.train(1, 0);
        x.train(4, 10);
        x.cell(0, -4, 6);
        x.cell(1, -4, 6);
        due("P13 a gain", x.best(0, 60), -8);
        due("P18 a gain", x.share(120), -8);
        due("P18 too soon", x.share(119), NONE);
        due("P20 a gain", x.needs(-8), 120);
        due("P20 more than that", x.needs(-9), NONE);
        due("P19 a gain", x.shareTime(1000, 0), 60);
        due("P12 is not moved by it", x.fastest(1), 60);
    }

    private static void sharingThatIsNot() {
        CoastPull x = withCells(5);
        x.stop(4, true);
        due("P12 the first leg has ways", x.fastest(0), 30 + 10 + 10 + 30);
        due("P18 a leg has none", x.share(1000), NONE);
        due("P19 a leg has none", x.shareTime(1000, 0), NONE);
        due("P19 that leg", x.shareTime(1000, 1), NONE);
        due("P20 a leg has none", x.needs(HIGHEST), NONE);
    }

    private static void sharingFollowsChanges() {
        CoastPull x = withCells(5);
        x.stop(3, true);
        due("P18 at first", x.share(1000), 6);
        x.cell(4, 4, 6);
        due("P18 after cell", x.share(1000), 10);
        x.train(1, 2);
        due("P18 after train", x.share(1000), 8 + 3 + 5);
        x.stop(3, false);
        x.cell(4, 0, 6);
        due("P18 after stop", x.share(1000), 3 + 4 * 3 + 1);
        x.line(2);
        due("P18 after line", x.share(1000), 4);
    }

    // Eight legs of two cells; each lets go 4 for 60 more: the last ones are slowed first.
    private static void sharingOfManyLegs() {
        CoastPull x = withCells(16);
        for (int post = 2; post < 16; post += 2) {
            due("P4 leg", x.stop(post, true), post / 2 + 1);
        }
        due("P18 all fast", x.share(480), 48);
        due("P18 too soon", x.share(479), NONE);
        for (int slow = 0; slow <= 8; slow++) {
            int t = Math.min(1000, 480 + 60 * slow + 30);
            due("P18 slow " + slow, x.share(t), 48 - 4 * slow);
            for (int leg = 0; leg < 8; leg++) {
                due("P19 slow " + slow + ", leg " + leg, x.shareTime(t, leg), leg < 8 - slow ? 60 : 120);
            }
            due("P20 slow " + slow, x.needs(48 - 4 * slow), 480 + 60 * slow);
        }
    }

    private static void legsOfOneCell() {
        CoastPull x = withCells(16);
        for (int post = 1; post < 16; post++) {
            due("P4 a leg a cell", x.stop(post, true), post + 1);
        }
        due("P24 legs", x.count(1), 16);
        due("P7 the last leg's first post", x.leg(15, false), 15);
        due("P7 the last leg's last post", x.leg(15, true), 16);
        due("P7 no more legs", x.leg(16, true), UNKNOWN);
        for (int leg = 0; leg < 16; leg++) {
            due("P12 leg " + leg, x.fastest(leg), NONE);
            due("P16 leg " + leg, x.curve(leg), 0);
            due("P19 leg " + leg, x.shareTime(1000, leg), NONE);
        }
        due("P18 no way at all", x.share(1000), NONE);
    }

    private static void log() {
        CoastPull x = withCells(2);
        due("P21 below", x.log(-1), OUTSIDE);
        due("P21 above", x.log(7), OUTSIDE);
        due("P21 first", x.log(6), 1);
        due("P21 second", x.log(0), 2);
        due("P24 speeds", x.count(2), 2);
        due("P21 third", x.log(3), 3);
        due("P21 full", x.log(3), FULL);
        due("P21 outside before full", x.log(7), OUTSIDE);
        due("P21 lowest", x.log(LOWEST), OUTSIDE);
        due("P21 highest", x.log(HIGHEST), OUTSIDE);
        due("P24 speeds", x.count(2), 3);
        due("P22 clear", x.clear(), 3);
        due("P22 again", x.clear(), 0);
        due("P24 none", x.count(2), 0);
        due("P21 anew", x.log(1), 1);
        due("P22 one", x.clear(), 1);
        x.line(16);
        for (int post = 0; post <= 16; post++) {
            due("P21 post " + post, x.log(1), post + 1);
        }
        due("P21 full at 16", x.log(1), FULL);
        due("P22 all", x.clear(), 17);
    }

    private static void judged() {
        CoastPull x = withCells(4);
        dueJudged(x, 0, 0, 0, NONE, 0);
        x.log(2);
        dueJudged(x, 0, 0, 0, NONE, 1);
        x.log(3);
        dueJudged(x, 12, 10, 0, NONE, 1);
        x.train(4, 10);
        x.log(1);
        dueJudged(x, 27, 6, 0, NONE, 1);
        x.stop(2, true);
        dueJudged(x, 27, 6, 0, NONE, 2);
        x.stop(3, true);
        x.log(0);
        dueJudged(x, 87, 6, 0, NONE, 2);
        x.log(1);
        dueJudged(x, 147, 8, 0, NONE, 3);
        for (int what : new int[] {-1, 5, LOWEST, HIGHEST}) {
            due("P23 what " + what, x.judged(what), OUTSIDE);
        }
        x.clear();
        dueJudged(x, 0, 0, 0, NONE, 0);
    }

    private static void judgedWithFaults() {
        CoastPull x = withCells(6);
        x.cell(1, 0, 2);
        logAll(x, 0, 1, 3, 6, 4, 2, 0);
        // 0 1: 60, 2; 1 3 above the limit; 3 6 apart; 6 4: -10, 6; 4 2: -6, 10; 2 0: -2, 30.
        dueJudged(x, 106, 2, 2, 1, 0);
        x.train(3, 6);
        dueJudged(x, 100, 2, 3, 1, 0);
        x.train(2, 1);
        dueJudged(x, 40, 0, 4, 0, 0);
        x.clear();
        logAll(x, 1, 1, 0, 0);
        dueJudged(x, 60, 0, 2, 0, 1);
        x.train(2, 100);
        dueJudged(x, 90, 2, 1, 2, 1);
    }

    private static void judgedAfresh() {
        CoastPull x = withCells(3);
        logAll(x, 0, 2, 2, 0);
        dueJudged(x, 75, 10, 0, NONE, 0);
        x.cell(1, 4, 2);
        dueJudged(x, 75, 14, 0, NONE, 0);
        x.cell(1, 4, 1);
        dueJudged(x, 60, 6, 1, 1, 0);
        x.stop(1, true);
        dueJudged(x, 60, 6, 1, 1, 1);
        x.stop(1, false);
        dueJudged(x, 60, 6, 1, 1, 0);
        x.line(3);
        dueJudged(x, 0, 0, 0, NONE, 0);
        // What was told before plays no part, be it with a fault or without.
        for (int speed : new int[] {6, 2}) {
            logAll(x, 0, speed, speed, speed);
            x.clear();
            x.log(0);
            dueJudged(x, 0, 0, 0, NONE, 0);
            x.clear();
        }
    }

    private static void dueJudged(CoastPull x, int... wanted) {
        for (int what = 0; what < wanted.length; what++) {
            due("P23 judged(" + what + ")", x.judged(what), wanted[what]);
        }
    }

    private static void refusedChangesNothing() {
        CoastPull x = withCells(3);
        x.cell(1, 2, 2);
        logAll(x, 0, 2, 2, 0);
        int before = x.best(0, 1000);
        x.line(17);
        x.cell(1, -4, 0);
        x.cell(1, 9, 1);
        x.cell(3, 0, 1);
        x.stop(0, true);
        x.stop(3, false);
        x.stop(4, true);
        x.train(0, 0);
        x.train(1, 21);
        x.train(5, 1);
        x.log(7);
        x.log(1);
        due("refused: best", x.best(0, 1000), before);
        due("refused: cells", x.count(0), 3);
        due("refused: legs", x.count(1), 1);
        due("refused: speeds", x.count(2), 4);
        due("refused: log", x.judged(1), 12);
        due("refused: limit", x.cell(1, 2, 2), 2);
        due("refused: weight", x.has(0), 1);
        due("refused: drag", x.has(1), 1);
    }
}
