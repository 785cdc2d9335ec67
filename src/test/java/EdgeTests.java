/** Each sentence of the document's Terms, and of its promises, at its edges: a test a sentence, answers by hand. */
public final class EdgeTests {
    private static final int UNKNOWN = -1, STATE = -3, FULL = -4, NONE = -1000000;
    private static final int LOWEST = Integer.MIN_VALUE, HIGHEST = Integer.MAX_VALUE;
    private static final int WEIGHT = 0, DRAG = 1, PULL = 2, BRAKE = 3, BACK = 4;
    private static final TestKit KIT = new TestKit();

    public static void main(String[] args) {
        theLine();
        theTrain();
        aStep();
        aWay();
        theBestWay();
        aSharing();
        theLog();
        KIT.finish();
    }

    private static void due(String what, int got, int want) {
        KIT.due(what, got, want);
    }

    private static CoastPull withCells(int n) {
        CoastPull x = new CoastPull();
        x.line(n);
        return x;
    }

    /** A line with a train of all these numbers; -1 leaves one as at first. */
    private static CoastPull withTrain(int n, int... numbers) {
        CoastPull x = withCells(n);
        for (int what = 0; what < numbers.length; what++) {
            if (numbers[what] >= 0) {
                x.train(what, numbers[what]);
            }
        }
        return x;
    }

    private static void logAll(CoastPull x, int... speeds) {
        for (int speed : speeds) {
            x.log(speed);
        }
    }

    private static void dueJudged(String sentence, CoastPull x, int... wanted) {
        for (int what = 0; what < wanted.length; what++) {
            due(sentence + ", judged(" + what + ")", x.judged(what), wanted[what]);
        }
    }

    private static void dueCurve(String sentence, CoastPull x, int leg, int[]... pairs) {
        due(sentence + ", pairs", x.curve(leg), pairs.length);
        for (int i = 0; i < pairs.length; i++) {
            due(sentence + ", time " + i, x.point(leg, i, false), pairs[i][0]);
            due(sentence + ", power " + i, x.point(leg, i, true), pairs[i][1]);
        }
        due(sentence + ", no more", x.point(leg, pairs.length, true), NONE);
    }

    // ---- the line

    private static void theLine() {
        cellsAndPostsOfEveryLine();
        eachGradeAndEachLimit();
        limitIsAtMost();
        cellLiesBetweenItsPosts();
        aCellIsChangedAlone();
        noStopsOnALineOfOneCell();
        legsLeadFromStopToStop();
        legsThatFallTogether();
        aStopToldTwice();
        aLineTakesAllBack();
        aTrainOutlivesTheLine();
    }

    private static void cellsAndPostsOfEveryLine() {
        CoastPull x = new CoastPull();
        int before = 1;
        for (int n = 1; n <= 16; n++) {
            String line = "CELLS 0 .. n - 1, POSTS 0 .. n, n = " + n;
            due(line, x.line(n), before);
            due(line + ", count", x.count(0), n);
            due(line + ", first cell", x.cell(0, 0, 6), 6);
            due(line + ", last cell", x.cell(n - 1, 0, 6), 6);
            due(line + ", no cell", x.cell(n, 0, 6), UNKNOWN);
            due(line + ", first post", x.stop(0, true), STATE);
            due(line + ", last post", x.stop(n, false), STATE);
            due(line + ", no post", x.stop(n + 1, true), UNKNOWN);
            due(line + ", one leg", x.leg(0, true), n);
            due(line + ", no second leg", x.leg(1, false), UNKNOWN);
            before = n;
        }
    }

    private static void eachGradeAndEachLimit() {
        CoastPull x = withCells(16);
        int limitBefore = 6;
        for (int grade = -4; grade <= 4; grade++) {
            for (int limit = 1; limit <= 6; limit++) {
                due("the LIMIT before", x.cell(15, grade, limit), limitBefore);
                due("a GRADE of -4 .. 4", x.force(15, 0, 0), grade);
                limitBefore = limit;
            }
        }
    }

    private static void limitIsAtMost() {
        for (int limit = 1; limit <= 6; limit++) {
            CoastPull x = withCells(1);
            x.cell(0, 0, limit);
            for (int u = 0; u <= 6; u++) {
                for (int v = 0; v <= 6; v++) {
                    boolean isAbove = u > limit || v > limit;
                    due("not above its LIMIT " + limit + ": " + u + ", " + v, x.fault(0, u, v) == 1 ? 1 : 0,
                        isAbove ? 1 : 0);
                    if (isAbove) {
                        due("above " + limit + ", time " + u + ", " + v, x.time(0, u, v), NONE);
                        due("above " + limit + ", power " + u + ", " + v, x.power(0, u, v), NONE);
                    }
                }
            }
        }
    }

    private static void cellLiesBetweenItsPosts() {
        for (int k : new int[] {0, 1, 14, 15}) {
            CoastPull x = withCells(16);
            x.cell(k, 0, 1);
            for (int post = 0; post <= 16; post++) {
                x.log(2);
            }
            dueJudged("CELL " + k + " lies between its POSTS", x, 15 * 15, 15 * 4, 1, k, 2);
            // Both posts of the cell must keep its limit, the others need not.
            int t = x.fastest(0);
            for (int post = 1; post < 16; post++) {
                boolean isOfCell = post == k || post == k + 1;
                due("both POSTS of CELL " + k + " keep its LIMIT, " + post, x.bestSpeed(0, t, post) == 1 ? 1 : 0,
                    isOfCell ? 1 : 0);
            }
        }
    }

    private static void aCellIsChangedAlone() {
        CoastPull x = withCells(16);
        x.cell(7, 4, 2);
        for (int k = 0; k < 16; k++) {
            due("a GRADE is its CELL's, " + k, x.force(k, 0, 0), k == 7 ? 4 : 0);
            due("a LIMIT is its CELL's, " + k, x.cell(k, 0, 6), k == 7 ? 2 : 6);
        }
    }

    private static void noStopsOnALineOfOneCell() {
        CoastPull x = new CoastPull();
        for (boolean is : new boolean[] {true, false}) {
            due("POST 0 is an end", x.stop(0, is), STATE);
            due("POST 1 is an end", x.stop(1, is), STATE);
            due("POST 2 is none", x.stop(2, is), UNKNOWN);
        }
        due("one LEG", x.count(1), 1);
        due("it leads to POST 1", x.leg(0, true), 1);
    }

    private static void legsLeadFromStopToStop() {
        CoastPull x = withCells(16);
        int[] told = {15, 1, 8, 14, 2, 9, 7, 3, 13, 4, 12, 5, 11, 6, 10};
        for (int i = 0; i < told.length; i++) {
            due("how many LEGS there are", x.stop(told[i], true), i + 2);
        }
        for (int leg = 0; leg < 16; leg++) {
            due("from one STOP", x.leg(leg, false), leg);
            due("to the next one", x.leg(leg, true), leg + 1);
        }
        due("no LEG 16", x.leg(16, false), UNKNOWN);
    }

    private static void legsThatFallTogether() {
        CoastPull x = withCells(16);
        for (int post = 1; post < 16; post++) {
            x.stop(post, true);
        }
        for (int post = 1; post < 16; post++) {
            due("a STOP less", x.stop(post, false), 16 - post);
            due("the first LEG leads on", x.leg(0, true), post + 1);
            due("the last LEG is there", x.leg(15 - post, true), 16);
            due("one LEG less", x.leg(16 - post, true), UNKNOWN);
        }
    }

    private static void aStopToldTwice() {
        CoastPull x = withCells(3);
        due("no STOP taken away", x.stop(1, false), 1);
        due("a STOP", x.stop(1, true), 2);
        due("a STOP again", x.stop(1, true), 2);
        due("another one", x.stop(2, true), 3);
        due("one away", x.stop(1, false), 2);
        due("one away again", x.stop(1, false), 2);
        due("what is left", x.leg(1, false), 2);
    }

    private static void aLineTakesAllBack() {
        CoastPull x = withCells(16);
        for (int k = 0; k < 16; k++) {
            x.cell(k, 4, 1);
            x.stop(k, true);
            x.log(k % 7);
        }
        due("how many CELLS it had", x.line(16), 16);
        due("no other STOPS", x.count(1), 1);
        due("THE LOG is empty", x.count(2), 0);
        due("it had no SPEEDS", x.clear(), 0);
        for (int k = 0; k < 16; k++) {
            due("GRADE 0 at first, " + k, x.force(k, 0, 0), 0);
            due("LIMIT 6 at first, " + k, x.cell(k, 0, 6), 6);
        }
        due("a log anew", x.log(0), 1);
        due("a line of one", x.line(1), 16);
        due("its log is empty", x.count(2), 0);
    }

    private static void aTrainOutlivesTheLine() {
        int[] numbers = {20, 0, 400, 1, 10};
        CoastPull x = withTrain(7, numbers);
        x.line(1);
        for (int what = 0; what < 5; what++) {
            due("a line leaves the train " + what, x.has(what), numbers[what]);
        }
    }

    // ---- the train

    private static void theTrain() {
        everyNumberOfTheTrain();
        numbersAreNotMixedUp();
    }

    private static void everyNumberOfTheTrain() {
        int[] least = {1, 0, 1, 1, 0};
        int[] most = {20, 20, 400, 400, 10};
        CoastPull[] objects = {new CoastPull(), new CoastPull(), new CoastPull(), new CoastPull(), new CoastPull()};
        for (int what = 0; what < 5; what++) {
            int before = objects[what].has(what);
            for (int v = least[what]; v <= most[what]; v++) {
                due("train(" + what + ", " + v + "): what it was", objects[what].train(what, v), before);
                before = v;
            }
            due("has(" + what + ")", objects[what].has(what), most[what]);
        }
    }

    private static void numbersAreNotMixedUp() {
        int[] first = {1, 1, 100, 100, 0};
        for (int what = 0; what < 5; what++) {
            CoastPull x = new CoastPull();
            x.train(what, 9);
            for (int other = 0; other < 5; other++) {
                due("train(" + what + ") leaves " + other, x.has(other), other == what ? 9 : first[other]);
            }
        }
    }

    // ---- a step

    private static void aStep() {
        forceOfTheHeaviestTrain();
        forceOfEveryStep();
        forceThatMayNotBe();
        restIsNoStep();
        twoApartAtMost();
        forceAtThePull();
        forceAtTheBrake();
        forceOfZero();
        timeIsCut();
        powerIsCut();
        firstFaultThatFits();
    }

    private static void forceOfTheHeaviestTrain() {
        CoastPull x = withTrain(2, 20, 20);
        x.cell(0, 4, 6);
        x.cell(1, -4, 6);
        due("FORCE at the most", x.force(0, 0, 6), 720 + 80 + 120);
        due("FORCE at the least", x.force(1, 6, 0), -720 - 80 + 120);
        due("FORCE of rest uphill", x.force(0, 0, 0), 80);
        due("FORCE of rest downhill", x.force(1, 0, 0), -80);
        x.train(DRAG, 0);
        due("FORCE without drag", x.force(1, 6, 0), -720 - 80);
        x.train(WEIGHT, 1);
        due("FORCE of the lightest train", x.force(1, 6, 0), -36 - 4);
    }

    private static void forceOfEveryStep() {
        for (int weight : new int[] {1, 7, 20}) {
            for (int drag : new int[] {0, 3, 20}) {
                CoastPull x = withTrain(3, weight, drag);
                for (int k = 0; k < 3; k++) {
                    x.cell(k, 4 * k - 4, 1);
                    for (int at = 0; at < 49; at++) {
                        int u = at / 7;
                        int v = at % 7;
                        int sum = weight * v * v - weight * u * u + weight * (4 * k - 4) + drag * u + drag * v;
                        due("FORCE of " + weight + ", " + drag + ": " + u + ", " + v, x.force(k, u, v), sum);
                    }
                }
            }
        }
    }

    private static void forceThatMayNotBe() {
        CoastPull x = withCells(1);
        x.cell(0, 2, 1);
        due("FORCE above the LIMIT", x.force(0, 6, 6), 2 + 12);
        due("FORCE of six apart", x.force(0, 6, 0), -36 + 2 + 6);
        x.train(PULL, 1);
        due("FORCE above the PULL", x.force(0, 1, 1), 4);
        x.train(BRAKE, 1);
        due("FORCE below the BRAKE", x.force(0, 4, 2), -12 + 2 + 6);
    }

    private static void restIsNoStep() {
        for (int grade = -4; grade <= 4; grade++) {
            CoastPull x = withCells(1);
            x.cell(0, grade, 6);
            due("not both are 0, GRADE " + grade, x.fault(0, 0, 0), 2);
            due("no TIME", x.time(0, 0, 0), NONE);
            due("no POWER", x.power(0, 0, 0), NONE);
            due("one may be 0", x.fault(0, 0, 1), 0);
            due("the other one too", x.fault(0, 1, 0), 0);
        }
    }

    private static void twoApartAtMost() {
        CoastPull x = withTrain(1, 1, 0);
        for (int u = 0; u <= 6; u++) {
            for (int v = 0; v <= 6; v++) {
                int apart = Math.max(u, v) - Math.min(u, v);
                int want = u == 0 && v == 0 ? 2 : apart > 2 ? 3 : 0;
                due("by 2 at most: " + u + ", " + v, x.fault(0, u, v), want);
                due("TIME of it", x.time(0, u, v) == NONE ? 1 : 0, want > 0 ? 1 : 0);
                due("POWER of it", x.power(0, u, v) == NONE ? 1 : 0, want > 0 ? 1 : 0);
            }
        }
    }

    private static void forceAtThePull() {
        CoastPull x = withTrain(1, 1, 0, 1);
        due("FORCE 1 of PULL 1", x.fault(0, 0, 1), 0);
        due("its POWER", x.power(0, 0, 1), 1);
        x.cell(0, 1, 6);
        due("FORCE 2 of PULL 1", x.fault(0, 0, 1), 4);
        due("no TIME", x.time(0, 0, 1), NONE);
        due("no POWER", x.power(0, 0, 1), NONE);
        x = withTrain(1, 20, 0, 400);
        x.cell(0, 4, 6);
        due("FORCE 400 of PULL 400", x.fault(0, 3, 5), 0);
        due("its POWER", x.power(0, 3, 5), 400);
        due("its TIME", x.time(0, 3, 5), 7);
        x.train(PULL, 399);
        due("FORCE 400 of PULL 399", x.fault(0, 3, 5), 4);
        x = withTrain(1, 17, 14, 400);
        x.cell(0, 1, 6);
        due("17 by 16, 17, 14 by 8", x.force(0, 3, 5), 401);
        due("FORCE 401 of PULL 400", x.fault(0, 3, 5), 4);
    }

    private static void forceAtTheBrake() {
        CoastPull x = withTrain(1, 1, 0, -1, 1, 10);
        due("FORCE -1 of BRAKE 1", x.fault(0, 1, 0), 0);
        due("its POWER", x.power(0, 1, 0), -1);
        x.cell(0, -1, 6);
        due("FORCE -2 of BRAKE 1", x.fault(0, 1, 0), 5);
        due("no TIME", x.time(0, 1, 0), NONE);
        due("no POWER", x.power(0, 1, 0), NONE);
        x = withTrain(1, 20, 0, -1, 400, 10);
        x.cell(0, -4, 6);
        due("FORCE -400 of BRAKE 400", x.fault(0, 5, 3), 0);
        due("its POWER", x.power(0, 5, 3), -400);
        due("its TIME", x.time(0, 5, 3), 7);
        x.train(BRAKE, 399);
        due("FORCE -400 of BRAKE 399", x.fault(0, 5, 3), 5);
        x = withTrain(1, 18, 3, -1, 400);
        x.cell(0, -4, 6);
        due("-18 by 20, -72, 3 by 10", x.force(0, 6, 4), -402);
        due("FORCE -402 of BRAKE 400", x.fault(0, 6, 4), 5);
    }

    private static void forceOfZero() {
        CoastPull x = withTrain(1, 1, 0, 1, 1, 10);
        for (int speed = 1; speed <= 6; speed++) {
            due("FORCE 0 may be", x.fault(0, speed, speed), 0);
            due("POWER 0", x.power(0, speed, speed), 0);
            due("TIME of it", x.time(0, speed, speed), 60 / (2 * speed));
        }
    }

    private static void timeIsCut() {
        CoastPull x = withCells(1);
        int[][] steps = {{0, 1, 60}, {1, 1, 30}, {1, 2, 20}, {2, 2, 15}, {2, 3, 12}, {3, 3, 10}, {3, 4, 8}, {4, 4, 7},
            {4, 5, 6}, {5, 5, 6}, {5, 6, 5}, {6, 6, 5}};
        for (int[] step : steps) {
            due("60 by u + v, cut", x.time(0, step[0], step[1]), step[2]);
            due("60 by v + u, cut", x.time(0, step[1], step[0]), step[2]);
        }
    }

    // FORCE of 1 to 1 is the GRADE by the WEIGHT without drag: sizes 1, 19 and 80 here.
    private static void powerIsCut() {
        int[] ofOne = {0, 0, 0, 0, 0, 0, 0, 0, 0, 0, -1};
        int[] of19 = {0, -1, -3, -5, -7, -9, -11, -13, -15, -17, -19};
        int[] of80 = {0, -8, -16, -24, -32, -40, -48, -56, -64, -72, -80};
        CoastPull one = withTrain(1, 1, 0);
        CoastPull nineteen = withTrain(1, 19, 0);
        CoastPull eighty = withTrain(1, 20, 0);
        one.cell(0, -1, 6);
        nineteen.cell(0, -1, 6);
        eighty.cell(0, -4, 6);
        for (int q = 0; q <= 10; q++) {
            one.train(BACK, q);
            nineteen.train(BACK, q);
            eighty.train(BACK, q);
            due("q tenths of 1, q = " + q, one.power(0, 1, 1), ofOne[q]);
            due("q tenths of 19, q = " + q, nineteen.power(0, 1, 1), of19[q]);
            due("q tenths of 80, q = " + q, eighty.power(0, 1, 1), of80[q]);
            due("FORCE above 0 is taken whole", one.power(0, 1, 2), 2);
        }
    }

    private static void firstFaultThatFits() {
        CoastPull x = withTrain(2, 20, 0, 1, 1);
        x.cell(0, 4, 4);
        x.cell(1, -4, 4);
        due("1 before 3 and 4", x.fault(0, 2, 5), 1);
        due("1 before 4", x.fault(0, 4, 5), 1);
        due("1 before 3 and 5", x.fault(1, 5, 2), 1);
        due("1 before 5", x.fault(1, 5, 4), 1);
        due("2 before 4", x.fault(0, 0, 0), 2);
        due("2 before 5", x.fault(1, 0, 0), 2);
        due("3 before 4", x.fault(0, 1, 4), 3);
        due("3 before 5", x.fault(1, 4, 1), 3);
        due("4", x.fault(0, 1, 1), 4);
        due("5", x.fault(1, 1, 1), 5);
    }

    // ---- a way

    private static void aWay() {
        aboveZeroBetweenStops();
        aLegOfOneCellHasNoWay();
        waysThatTheTrainCannotDrive();
        aWayThatJustMayBe();
        aWayKeepsToItsLeg();
        sixteenCells();
        sixteenCellsOfHills();
    }

    // 0 1 0 1 0 would take 4, but a post that is no stop is not stopped at: 0 1 1 1 0 takes 6.
    private static void aboveZeroBetweenStops() {
        CoastPull x = withCells(4);
        due("above 0 at others", x.best(0, 1000), 6);
        for (int post = 0; post <= 4; post++) {
            due("SPEED at POST " + post, x.bestSpeed(0, 1000, post), post % 4 == 0 ? 0 : 1);
        }
        x.stop(2, true);
        due("0 at a STOP", x.share(1000), 4);
        due("0 at a STOP, from it", x.bestSpeed(1, 1000, 2), 0);
        due("0 at a STOP, to it", x.bestSpeed(0, 1000, 2), 0);
    }

    private static void aLegOfOneCellHasNoWay() {
        for (int n : new int[] {1, 2, 16}) {
            CoastPull x = withCells(n);
            for (int post = 1; post < n; post++) {
                x.stop(post, true);
            }
            dueNoWay("a LEG of one CELL, " + n, x, n - 1);
        }
    }

    private static void dueNoWay(String sentence, CoastPull x, int leg) {
        due(sentence + ", fastest", x.fastest(leg), NONE);
        due(sentence + ", curve", x.curve(leg), 0);
        for (int i : new int[] {LOWEST, -1, 0, 1, HIGHEST}) {
            due(sentence + ", point " + i, x.point(leg, i, false), NONE);
            due(sentence + ", power of point " + i, x.point(leg, i, true), NONE);
        }
        for (int t : new int[] {0, 500, 1000}) {
            due(sentence + ", best " + t, x.best(leg, t), NONE);
            due(sentence + ", bestTime " + t, x.bestTime(leg, t), NONE);
            for (int post = 0; post <= x.count(0); post++) {
                due(sentence + ", bestSpeed at " + post, x.bestSpeed(leg, t, post), NONE);
            }
            due(sentence + ", share " + t, x.share(t), NONE);
            for (int other = 0; other < x.count(1); other++) {
                due(sentence + ", shareTime of " + other, x.shareTime(t, other), NONE);
            }
        }
        due(sentence + ", needs", x.needs(HIGHEST), NONE);
        due(sentence + ", needs the least", x.needs(LOWEST), NONE);
    }

    private static void waysThatTheTrainCannotDrive() {
        CoastPull weak = withTrain(3, 1, 1, 1);
        dueNoWay("too weak to start", weak, 0);
        CoastPull brakeless = withTrain(3, 20, 0, 400, 1);
        dueNoWay("no brake to stop with", brakeless, 0);
        CoastPull hill = withTrain(5, 20, 0, 20);
        hill.cell(2, 1, 6);
        due("a hill it can climb from 1 to 1", hill.fault(2, 1, 1), 0);
        hill.cell(2, 2, 6);
        // From 2 to 1 it would climb, but a PULL of 20 never gets it to 2.
        due("a hill it cannot climb", hill.fault(2, 1, 1), 4);
        due("a start it cannot make", hill.fault(0, 0, 2), 4);
        dueNoWay("a hill in the middle", hill, 0);
    }

    private static void aWayThatJustMayBe() {
        CoastPull x = withTrain(2, 20, 0, 20, 20);
        due("0 1 0 with just the PULL and the BRAKE for it", x.fastest(0), 120);
        dueCurve("its one pair", x, 0, new int[] {120, 20});
        x.train(BRAKE, 19);
        due("a BRAKE one less", x.fastest(0), NONE);
        x.train(BRAKE, 20);
        x.train(PULL, 19);
        due("a PULL one less", x.fastest(0), NONE);
        x.train(PULL, 20);
        due("as before", x.best(0, 120), 20);
    }

    private static void aWayKeepsToItsLeg() {
        CoastPull x = withCells(7);
        x.stop(2, true);
        x.stop(5, true);
        int[] posts = {0, 2, 5, 7};
        for (int leg = 0; leg < 3; leg++) {
            for (int post = 0; post <= 7; post++) {
                boolean isOfLeg = post >= posts[leg] && post <= posts[leg + 1];
                boolean isStop = post == posts[leg] || post == posts[leg + 1];
                due("POST " + post + " of LEG " + leg, x.bestSpeed(leg, 1000, post), !isOfLeg ? NONE : isStop ? 0 : 1);
                due("too soon, POST " + post + " of LEG " + leg, x.bestSpeed(leg, 59, post), NONE);
            }
        }
    }

    private static void sixteenCells() {
        CoastPull x = withCells(16);
        for (int k = 0; k < 16; k++) {
            x.cell(k, 0, 1);
        }
        dueCurve("the slowest way there is", x, 0, new int[] {540, 30});
        due("one less", x.bestTime(0, 539), NONE);
        due("just that", x.bestTime(0, 540), 540);
        due("the most", x.bestTime(0, 1000), 540);
        due("SPEED at POST 16", x.bestSpeed(0, 1000, 16), 0);
        due("SPEED at POST 15", x.bestSpeed(0, 1000, 15), 1);
        due("needs", x.needs(30), 540);
        due("needs less", x.needs(29), NONE);
        for (int k = 0; k < 16; k++) {
            x.cell(k, 0, 6);
        }
        x.train(DRAG, 0);
        x.train(BACK, 10);
        // All that is pulled comes back: the fastest way takes 0, as all do.
        dueCurve("all comes back", x, 0, new int[] {142, 0});
        int[] speeds = {0, 2, 4, 5, 5, 5, 5, 5, 5, 5, 5, 5, 5, 5, 4, 2, 0};
        int[] sixes = {0, 2, 4, 6, 6, 6, 6, 6, 6, 6, 6, 6, 6, 6, 4, 2, 0};
        due("the fastest way", timeOf(x, sixes), 142);
        due("a slower one", timeOf(x, speeds), 152);
        for (int post = 0; post <= 16; post++) {
            due("first by SPEEDS, " + post, x.bestSpeed(0, 142, post), leastOfTheFastest(post));
        }
    }

    // At speed 1 all through: 20 by 4 a cell up or down, and a drag of 20 counts 30 times in all.
    private static void sixteenCellsOfHills() {
        for (int grade : new int[] {-4, 4}) {
            CoastPull x = withTrain(16, 20, 0, 400, 400, 10);
            for (int k = 0; k < 16; k++) {
                x.cell(k, grade, 1);
            }
            int power = grade * 20 * 16;
            dueCurve("sixteen CELLS of GRADE " + grade, x, 0, new int[] {540, power});
            due("POWER for the most time", x.best(0, 1000), power);
            due("POWER shared", x.share(540), power);
            due("needs just that", x.needs(power), 540);
            due("needs less", x.needs(power - 1), NONE);
            for (int post = 0; post <= 16; post++) {
                due("SPEED at POST " + post, x.bestSpeed(0, 1000, post), post % 16 == 0 ? 0 : 1);
            }
        }
        CoastPull x = withTrain(16, 20, 20, 400, 400);
        for (int k = 0; k < 16; k++) {
            x.cell(k, 4, 1);
        }
        dueCurve("uphill with all the DRAG", x, 0, new int[] {540, 16 * 80 + 30 * 20});
    }

    private static int timeOf(CoastPull x, int[] speeds) {
        int sum = 0;
        for (int k = 0; k + 1 < speeds.length; k++) {
            sum += x.time(k, speeds[k], speeds[k + 1]);
        }
        return sum;
    }

    // 4 to 5 and 4 to 6 take 6 both, 5 to 6 and 6 to 6 take 5 both: a 5 beside a 4 costs no time.
    private static int leastOfTheFastest(int post) {
        int fromEnd = Math.min(post, 16 - post);
        return fromEnd == 0 ? 0 : fromEnd == 1 ? 2 : fromEnd == 2 ? 4 : fromEnd == 3 ? 5 : sixOrFive(post);
    }

    // 5 5 takes 6, 5 6 and 6 5 take 5: between the outer 5s, every other post may have a 5 again.
    private static int sixOrFive(int post) {
        return post % 2 == 0 ? 6 : 5;
    }

    // ---- the best way

    private static void theBestWay() {
        timeIsAtMost();
        slowerForMorePowerIsNoPair();
        likePowerTakesTheLeastTime();
        likeWaysTakeTheFirstBySpeeds();
        powerBelowZero();
        pairsAtBothEndsOfACurve();
    }

    private static void timeIsAtMost() {
        CoastPull x = withCells(2);
        int[][] rows = {{0, NONE, NONE}, {59, NONE, NONE}, {60, 6, 60}, {61, 6, 60}, {119, 6, 60}, {120, 2, 120},
            {121, 2, 120}, {999, 2, 120}, {1000, 2, 120}};
        for (int[] row : rows) {
            due("POWER for " + row[0], x.best(0, row[0]), row[1]);
            due("TIME for " + row[0], x.bestTime(0, row[0]), row[2]);
            due("SPEED for " + row[0], x.bestSpeed(0, row[0], 1), row[1] == NONE ? NONE : row[1] == 6 ? 2 : 1);
        }
    }

    // Down by 4, then up by 4: 0 2 0 rolls through, 0 1 0 brakes to 1 and must pull 3 behind it.
    private static void slowerForMorePowerIsNoPair() {
        CoastPull x = withTrain(2, 1, 0);
        x.cell(0, -4, 6);
        x.cell(1, 4, 6);
        due("0 1 0 takes", x.power(1, 1, 0), 3);
        dueCurve("slower for more", x, 0, new int[] {60, 0});
        due("POWER at its time", x.best(0, 120), 0);
        due("TIME at its time", x.bestTime(0, 120), 60);
        due("SPEED at its time", x.bestSpeed(0, 120, 1), 2);
    }

    private static void likePowerTakesTheLeastTime() {
        CoastPull x = withTrain(2, 1, 0, -1, -1, 10);
        dueCurve("slower for like POWER", x, 0, new int[] {60, 0});
        due("least TIME of like ones", x.bestTime(0, 1000), 60);
        due("its SPEED", x.bestSpeed(0, 1000, 1), 2);
    }

    private static void likeWaysTakeTheFirstBySpeeds() {
        CoastPull x = withTrain(3, 1, 1, -1, -1, 10);
        // 0 1 2 0: 2, 6, -2; 0 2 1 0: 6, 0, 0: like POWER, like TIME.
        due("like POWER", x.power(0, 0, 1) + x.power(1, 1, 2) + x.power(2, 2, 0), 6);
        due("like POWER of the other", x.power(0, 0, 2) + x.power(1, 2, 1) + x.power(2, 1, 0), 6);
        due("the lesser one first", x.bestSpeed(0, 149, 1), 1);
        due("then the greater one", x.bestSpeed(0, 149, 2), 2);
        // Told apart at a later post only: 0 1 1 2 0, 0 1 2 1 0, 0 2 1 1 0 in 140.
        x.line(4);
        due("three of like TIME", x.bestTime(0, 140), 140);
        int[] speeds = {0, 1, 1, 2, 0};
        for (int post = 0; post <= 4; post++) {
            due("where they are first unlike, " + post, x.bestSpeed(0, 140, post), speeds[post]);
        }
    }

    private static void powerBelowZero() {
        CoastPull x = withTrain(2, 20, 0, -1, 400, 10);
        x.cell(0, -4, 6);
        x.cell(1, -4, 6);
        // All that the hill gives comes back, however it is driven: the fastest way is the only pair.
        dueCurve("all of a hill", x, 0, new int[] {60, -160});
        due("needs it all", x.needs(-160), 60);
        due("needs more", x.needs(-161), NONE);
        x.train(BACK, 5);
        // 0 2: force 0, 2 0: -160. 0 1: -60, 1 0: -100.
        dueCurve("half of a hill", x, 0, new int[] {60, -80});
        x.train(BACK, 0);
        dueCurve("nothing of a hill", x, 0, new int[] {60, 0});
    }

    private static void pairsAtBothEndsOfACurve() {
        CoastPull x = withCells(16);
        due("as many as 60", x.curve(0), 60);
        due("first TIME", x.point(0, 0, false), 142);
        due("last TIME", x.point(0, 59, false), 540);
        due("last POWER", x.point(0, 59, true), 30);
        due("not so many", x.point(0, 60, false), NONE);
        due("POWER of one too many", x.point(0, 60, true), NONE);
        for (int i = 1; i < 60; i++) {
            KIT.holds("the least TIME first, " + i, x.point(0, i, false) > x.point(0, i - 1, false));
            KIT.holds("POWER falls, " + i, x.point(0, i, true) < x.point(0, i - 1, true));
        }
    }

    // ---- a sharing

    private static void aSharing() {
        sharingOfOneLeg();
        timesTogetherAreAtMost();
        theLongestSharing();
        legByLegTheLeastTime();
        oneLegWithoutAWay();
        needsTheLeastTime();
    }

    private static void sharingOfOneLeg() {
        CoastPull x = withCells(3);
        for (int t : new int[] {0, 74, 75, 109, 110, 149, 150, 1000}) {
            due("one LEG alone, share " + t, x.share(t), x.best(0, t));
            due("one LEG alone, its TIME " + t, x.shareTime(t, 0), x.bestTime(0, t));
        }
    }

    private static void timesTogetherAreAtMost() {
        CoastPull x = withCells(4);
        x.stop(2, true);
        int[][] rows = {{0, NONE, NONE, NONE}, {119, NONE, NONE, NONE}, {120, 12, 60, 60}, {179, 12, 60, 60},
            {180, 8, 60, 120}, {239, 8, 60, 120}, {240, 4, 120, 120}, {1000, 4, 120, 120}};
        for (int[] row : rows) {
            due("POWER together in " + row[0], x.share(row[0]), row[1]);
            due("TIME of LEG 0 in " + row[0], x.shareTime(row[0], 0), row[2]);
            due("TIME of LEG 1 in " + row[0], x.shareTime(row[0], 1), row[3]);
        }
    }

    private static void theLongestSharing() {
        CoastPull x = withCells(16);
        for (int k = 0; k < 16; k++) {
            x.cell(k, 0, 1);
            x.stop(k, k % 2 == 0);
        }
        due("eight LEGS", x.count(1), 8);
        due("all but one", x.share(959), NONE);
        due("TIME of a LEG in it", x.shareTime(959, 7), NONE);
        due("all of them", x.share(960), 16);
        due("1000", x.share(1000), 16);
        for (int leg = 0; leg < 8; leg++) {
            due("TIME of LEG " + leg, x.shareTime(960, leg), 120);
        }
        due("needs", x.needs(16), 960);
        due("needs more than all", x.needs(HIGHEST), 960);
        due("needs less", x.needs(15), NONE);
        due("needs the least", x.needs(LOWEST), NONE);
    }

    // LEG 0 gives 4 back for 35 more, LEG 1 4 for 60 more: with 60 left, LEG 0 stays the faster of the two.
    private static void legByLegTheLeastTime() {
        CoastPull x = withCells(5);
        x.stop(3, true);
        due("35 left", x.shareTime(135 + 35, 0), 110);
        due("59 left", x.shareTime(135 + 59, 0), 110);
        due("60 left, LEG 0", x.shareTime(135 + 60, 0), 75);
        due("60 left, LEG 1", x.shareTime(135 + 60, 1), 120);
        // The other way round, LEG 0 (two cells) stays at 60 while LEG 1 may give as much.
        x.stop(3, false);
        x.stop(2, true);
        due("35 left, LEG 0", x.shareTime(135 + 35, 0), 60);
        due("35 left, LEG 1", x.shareTime(135 + 35, 1), 110);
        due("60 left, LEG 0 again", x.shareTime(135 + 60, 0), 60);
        due("60 left, LEG 1 again", x.shareTime(135 + 60, 1), 110);
    }

    private static void oneLegWithoutAWay() {
        for (int leg = 0; leg < 3; leg++) {
            CoastPull x = withCells(5);
            int[][] stops = {{1, 3}, {2, 3}, {2, 4}};
            x.stop(stops[leg][0], true);
            x.stop(stops[leg][1], true);
            for (int other = 0; other < 3; other++) {
                due("LEG " + other + " beside LEG " + leg, x.fastest(other), other == leg ? NONE : 60);
            }
            dueNoWay("LEG " + leg + " has none", x, leg);
        }
    }

    private static void needsTheLeastTime() {
        CoastPull x = withCells(4);
        x.stop(2, true);
        int[][] rows = {{HIGHEST, 120}, {13, 120}, {12, 120}, {11, 180}, {8, 180}, {7, 240}, {4, 240}, {3, NONE},
            {0, NONE}, {-1, NONE}, {NONE, NONE}, {LOWEST, NONE}};
        for (int[] row : rows) {
            due("needs(" + row[0] + ")", x.needs(row[0]), row[1]);
        }
        CoastPull none = new CoastPull();
        due("NONE is no POWER", none.needs(NONE), NONE);
        due("NONE is no POWER, one more", none.needs(NONE + 1), NONE);
    }

    // ---- the log

    private static void theLog() {
        anEmptyLog();
        aLogOfOneSpeed();
        aFullLog();
        aLogOfOneCell();
        stepsOfTheLogWithEachFault();
        theFirstAndTheLastCellWithAFault();
        everyStepWithAFault();
        timeAndPowerOfTheLog();
        theDearestLog();
        stopsThatArePassed();
        clearAndLineEmptyTheLog();
        aLogIsNoWay();
    }

    private static void anEmptyLog() {
        for (int n : new int[] {1, 16}) {
            CoastPull x = withCells(n);
            dueJudged("an empty LOG of " + n, x, 0, 0, 0, NONE, 0);
            due("no SPEEDS", x.count(2), 0);
            due("clear of none", x.clear(), 0);
            due("the first SPEED", x.log(0), 1);
        }
    }

    private static void aLogOfOneSpeed() {
        for (int speed = 0; speed <= 6; speed++) {
            CoastPull x = new CoastPull();
            x.cell(0, 0, 1);
            x.log(speed);
            dueJudged("one SPEED is no STEP", x, 0, 0, 0, NONE, speed == 0 ? 0 : 1);
        }
    }

    private static void aFullLog() {
        CoastPull x = withCells(16);
        for (int post = 0; post < 16; post++) {
            due("the next POST", x.log(1), post + 1);
        }
        dueJudged("but one", x, 15 * 30, 15 * 2, 0, NONE, 1);
        due("the last POST", x.log(0), 17);
        dueJudged("full", x, 15 * 30 + 60, 15 * 2, 0, NONE, 1);
        for (int speed = 0; speed <= 6; speed++) {
            due("it has one at the last POST", x.log(speed), FULL);
        }
        dueJudged("still so", x, 15 * 30 + 60, 15 * 2, 0, NONE, 1);
        due("how many", x.count(2), 17);
        due("clear of all", x.clear(), 17);
        due("the first again", x.log(2), 1);
    }

    private static void aLogOfOneCell() {
        CoastPull x = new CoastPull();
        due("POST 0", x.log(0), 1);
        due("POST 1", x.log(1), 2);
        due("full", x.log(0), FULL);
        dueJudged("one STEP", x, 60, 2, 0, NONE, 1);
        due("clear", x.clear(), 2);
        logAll(x, 0, 0);
        dueJudged("rest", x, 0, 0, 1, 0, 0);
    }

    private static void stepsOfTheLogWithEachFault() {
        // Each log has one step, with the fault of its row: 0 limit, 1 rest, 2 apart, 3 pull, 4 brake.
        int[][] steps = {{4, 5}, {0, 0}, {1, 4}, {3, 4}, {4, 3}};
        int[] grades = {0, 0, 0, 4, -4};
        for (int i = 0; i < steps.length; i++) {
            CoastPull x = withTrain(2, 1, 0, 10, 10, 10);
            x.cell(0, grades[i], 4);
            due("FAULT", x.fault(0, steps[i][0], steps[i][1]), i + 1);
            logAll(x, steps[i]);
            dueJudged("a STEP with FAULT " + (i + 1), x, 0, 0, 1, 0, steps[i][0] > 0 ? 1 : 0);
        }
    }

    private static void theFirstAndTheLastCellWithAFault() {
        CoastPull x = withCells(16);
        logAll(x, 0, 1, 1, 1, 1, 1, 1, 1, 1, 1, 1, 1, 1, 1, 1, 1);
        due("none yet", x.judged(3), NONE);
        x.log(4);
        dueJudged("the last CELL", x, 60 + 14 * 30, 15 * 2, 1, 15, 1);
        x.cell(0, 4, 6);
        x.train(PULL, 5);
        dueJudged("the first CELL", x, 14 * 30, 14 * 2, 2, 0, 1);
        x.cell(8, 1, 6);
        x.cell(0, 0, 6);
        x.train(PULL, 2);
        dueJudged("one between", x, 60 + 13 * 30, 14 * 2, 2, 8, 1);
    }

    private static void everyStepWithAFault() {
        CoastPull x = withCells(16);
        for (int post = 0; post <= 16; post++) {
            x.log(0);
        }
        dueJudged("all at rest", x, 0, 0, 16, 0, 0);
    }

    private static void timeAndPowerOfTheLog() {
        CoastPull x = withTrain(3, 20, 0, 400, 400, 5);
        x.cell(0, -4, 6);
        x.cell(2, -4, 6);
        // 1 1 downhill: -80, half of it back; 1 1 flat: 0; 1 3 downhill: 80.
        logAll(x, 1, 1);
        dueJudged("POWER below 0", x, 30, -40, 0, NONE, 1);
        logAll(x, 1, 3);
        dueJudged("together", x, 75, 40, 0, NONE, 2);
        x.train(PULL, 79);
        dueJudged("without the STEP with a FAULT", x, 60, -40, 1, 2, 2);
        x.train(BRAKE, 79);
        dueJudged("without both", x, 30, 0, 2, 0, 2);
    }

    private static void theDearestLog() {
        CoastPull x = withTrain(16, 20, 20, 400, 400, 10);
        for (int k = 0; k < 16; k++) {
            x.cell(k, 4, 6);
        }
        for (int post = 0; post <= 16; post++) {
            x.log(6);
        }
        dueJudged("uphill at 6", x, 16 * 5, 16 * (80 + 240), 0, NONE, 2);
        for (int k = 0; k < 16; k++) {
            x.cell(k, -4, 6);
        }
        x.train(DRAG, 0);
        dueJudged("downhill at 6", x, 16 * 5, 16 * -80, 0, NONE, 2);
    }

    private static void stopsThatArePassed() {
        CoastPull x = withCells(4);
        x.stop(2, true);
        x.log(1);
        due("POST 0 is a STOP", x.judged(4), 1);
        x.log(1);
        due("POST 1 is none", x.judged(4), 1);
        due("POST 2 is not told yet", x.count(2), 2);
        x.log(1);
        due("POST 2 is one", x.judged(4), 2);
        x.log(1);
        x.log(6);
        due("POST 4 is one, with a FAULT or without", x.judged(4), 3);
        x.stop(1, true);
        due("POST 1 is one now", x.judged(4), 4);
        x.stop(2, false);
        due("POST 2 is none now", x.judged(4), 3);
        x.clear();
        logAll(x, 0, 0, 0, 0, 0);
        due("0 at all of them", x.judged(4), 0);
        CoastPull all = withCells(16);
        for (int post = 0; post <= 16; post++) {
            all.stop(post, true);
            all.log(6);
        }
        due("all of 17", all.judged(4), 17);
    }

    private static void clearAndLineEmptyTheLog() {
        for (boolean byLine : new boolean[] {true, false}) {
            CoastPull x = withCells(2);
            logAll(x, 1, 6, 1);
            due("2 STEPS with a FAULT", x.judged(2), 2);
            due("emptied", byLine ? x.line(2) : x.clear(), byLine ? 2 : 3);
            dueJudged("nothing left", x, 0, 0, 0, NONE, 0);
            logAll(x, 0, 1);
            dueJudged("only what was told since", x, 60, 2, 0, NONE, 0);
            due("SPEEDS since", x.clear(), 2);
        }
        CoastPull x = withCells(2);
        x.cell(1, 4, 3);
        x.stop(1, true);
        logAll(x, 1, 1);
        x.clear();
        due("clear leaves the STOPS", x.count(1), 2);
        due("clear leaves the GRADES", x.force(1, 0, 0), 4);
        due("clear leaves the LIMITS", x.cell(1, 0, 6), 3);
    }

    private static void aLogIsNoWay() {
        CoastPull x = withCells(3);
        logAll(x, 1, 1, 1, 1);
        dueJudged("THE LOG need not stop", x, 90, 6, 0, NONE, 2);
        due("it leaves the BEST WAY", x.best(0, 1000), 4);
        due("it leaves the SHARING", x.share(1000), 4);
        due("clear leaves them too", x.clear() + x.best(0, 1000), 8);
    }
}
