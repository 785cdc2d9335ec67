import java.util.ArrayList;
import java.util.List;

/** The class against a second way of working its answers out, and against lists of all ways and sharings. */
public final class ReferenceTests {
    private static final int NONE = -1000000;
    private static final int CALLS = 512;
    // Of ways of like power the one of least time, then by speeds; of such sharings by the times of their legs.
    private static final int BY_TIME = 0, LEG_BY_LEG = 2;
    private static final TestKit KIT = new TestKit();

    private long seed;

    private ReferenceTests(long seed) {
        this.seed = seed;
    }

    public static void main(String[] args) {
        for (int run = 0; run < 400; run++) {
            new ReferenceTests(run * 7919L + 1).runOfCalls("run " + run);
        }
        for (int round = 0; round < 250; round++) {
            new ReferenceTests(round * 104729L + 5).allWaysAndSharings("round " + round);
        }
        KIT.finish();
    }

    // A row of numbers that is the same each time: tests must not change from run to run.
    private int below(int n) {
        seed = seed * 6364136223846793005L + 1442695040888963407L;
        return (int) Long.remainderUnsigned(seed >>> 33, n);
    }

    private int between(int least, int most) {
        return least + below(most - least + 1);
    }

    private boolean flip() {
        return below(2) == 0;
    }

    /** Mostly a number of the range, now and then one beside it or far out. */
    private int near(int least, int most) {
        switch (below(24)) {
            case 0:
                return least - 1;
            case 1:
                return most + 1;
            case 2:
                return flip() ? Integer.MIN_VALUE : Integer.MAX_VALUE;
            default:
                return between(least, most);
        }
    }

    private void runOfCalls(String name) {
        CoastPull x = new CoastPull();
        SlowPull slow = new SlowPull();
        int lateChanges = between(1, 30);
        for (int call = 0; call < CALLS; call++) {
            if (call == 0 || below(150) == 0) {
                int n = flip() ? 16 : near(1, 16);
                KIT.due(name + " line " + n, x.line(n), slow.line(n));
            } else if (call < 40 || below(lateChanges) == 0) {
                change(name + " call " + call, x, slow);
            } else {
                ask(name + " call " + call, x, slow);
            }
        }
    }

    private void change(String name, CoastPull x, SlowPull slow) {
        int cells = slow.count(0);
        switch (below(8)) {
            case 0:
            case 1:
            case 2: {
                int k = near(0, cells - 1);
                int grade = near(-4, 4);
                int limit = flip() ? 6 : near(1, 6);
                KIT.due(name + " cell", x.cell(k, grade, limit), slow.cell(k, grade, limit));
                break;
            }
            case 3: {
                int post = near(0, cells);
                boolean is = below(3) == 0;
                KIT.due(name + " stop", x.stop(post, is), slow.stop(post, is));
                break;
            }
            case 4: {
                int what = near(0, 4);
                int v = near(0, what < 2 ? 20 : what < 4 ? 400 : 10);
                KIT.due(name + " train", x.train(what, v), slow.train(what, v));
                break;
            }
            case 5:
                if (below(10) == 0) {
                    KIT.due(name + " clear", x.clear(), slow.clear());
                }
                break;
            default: {
                int speed = near(0, 6);
                KIT.due(name + " log", x.log(speed), slow.log(speed));
                break;
            }
        }
    }

    private void ask(String name, CoastPull x, SlowPull slow) {
        int leg = near(0, slow.count(1) - 1);
        int t = near(0, 1000);
        switch (below(13)) {
            case 0:
                askSteps(name, x, slow);
                break;
            case 1:
                KIT.due(name + " fastest", x.fastest(leg), slow.fastest(leg));
                break;
            case 2:
                KIT.due(name + " best", x.best(leg, t), slow.best(leg, t));
                break;
            case 3:
                KIT.due(name + " bestTime", x.bestTime(leg, t), slow.bestTime(leg, t));
                break;
            case 4:
            case 5: {
                int post = near(0, slow.count(0));
                KIT.due(name + " bestSpeed", x.bestSpeed(leg, t, post), slow.bestSpeed(leg, t, post));
                break;
            }
            case 6:
                KIT.due(name + " curve", x.curve(leg), slow.curve(leg));
                break;
            case 7: {
                int i = near(0, 60);
                boolean ofPower = flip();
                KIT.due(name + " point", x.point(leg, i, ofPower), slow.point(leg, i, ofPower));
                break;
            }
            case 8:
                KIT.due(name + " share", x.share(t), slow.share(t));
                break;
            case 9:
                KIT.due(name + " shareTime", x.shareTime(t, leg), slow.shareTime(t, leg));
                break;
            case 10: {
                int power = near(-50, 400);
                KIT.due(name + " needs", x.needs(power), slow.needs(power));
                break;
            }
            default:
                askTheRest(name, x, slow, leg);
                break;
        }
    }

    private void askSteps(String name, CoastPull x, SlowPull slow) {
        int k = near(0, slow.count(0) - 1);
        int u = near(0, 6);
        int v = near(0, 6);
        KIT.due(name + " force", x.force(k, u, v), slow.force(k, u, v));
        KIT.due(name + " fault", x.fault(k, u, v), slow.fault(k, u, v));
        KIT.due(name + " time", x.time(k, u, v), slow.time(k, u, v));
        KIT.due(name + " power", x.power(k, u, v), slow.power(k, u, v));
    }

    private void askTheRest(String name, CoastPull x, SlowPull slow, int leg) {
        int what = near(0, 4);
        KIT.due(name + " has", x.has(what), slow.has(what));
        KIT.due(name + " judged", x.judged(what), slow.judged(what));
        KIT.due(name + " count", x.count(what), slow.count(what));
        KIT.due(name + " leg", x.leg(leg, false), slow.leg(leg, false));
        KIT.due(name + " leg", x.leg(leg, true), slow.leg(leg, true));
    }

    // ---- all ways, all sharings

    /** Time, power, then the speeds. */
    private static void listWays(CoastPull x, int last, int post, int[] way, List<int[]> ways) {
        if (post == last) {
            ways.add(way);
            return;
        }
        int u = way[way.length - 1];
        boolean toStop = post + 1 == last;
        for (int v = toStop ? 0 : 1; v <= (toStop ? 0 : 6); v++) {
            if (x.fault(post, u, v) == 0) {
                int[] longer = java.util.Arrays.copyOf(way, way.length + 1);
                longer[0] += x.time(post, u, v);
                longer[1] += x.power(post, u, v);
                longer[way.length] = v;
                listWays(x, last, post + 1, longer, ways);
            }
        }
    }

    /** Whether a way is better: by power, then by what stands in it from a place on. */
    private static boolean isBetter(int[] way, int[] than, int from) {
        if (than == null || way[1] != than[1]) {
            return than == null || way[1] < than[1];
        }
        for (int i = from; i < way.length; i++) {
            if (way[i] != than[i]) {
                return way[i] < than[i];
            }
        }
        return false;
    }

    private static int[] bestOf(List<int[]> ways, int t, int from) {
        int[] best = null;
        for (int[] way : ways) {
            if (way[0] <= t && isBetter(way, best, from)) {
                best = way;
            }
        }
        return best;
    }

    private void allWaysAndSharings(String name) {
        CoastPull x = new CoastPull();
        int n = between(2, 8);
        x.line(n);
        boolean isFree = below(3) == 0;
        if (!isFree) {
            x.train(0, between(1, flip() ? 3 : 20));
            x.train(1, between(0, flip() ? 2 : 20));
            x.train(2, between(1, 400));
            x.train(3, between(1, 400));
        } else {
            x.train(1, below(2));
        }
        x.train(4, flip() ? 10 : below(11));
        for (int k = 0; k < n; k++) {
            x.cell(k, flip() ? 0 : between(-4, 4), n > 6 ? between(1, 3) : between(2, 6));
        }
        for (int post = 2; post < n; post++) {
            x.stop(post, below(3) == 0);
        }
        List<List<int[]>> curves = new ArrayList<>();
        List<List<int[]>> waysOfLegs = new ArrayList<>();
        for (int leg = 0; leg < x.count(1); leg++) {
            List<int[]> ways = new ArrayList<>();
            listWays(x, x.leg(leg, true), x.leg(leg, false), new int[3], ways);
            curves.add(waysAsDue(name + " leg " + leg, x, leg, ways));
            waysOfLegs.add(ways);
        }
        sharingsOfAllWays(name, x, waysOfLegs);
        for (int i = 0; i < 12; i++) {
            sharingAsDue(name, x, curves, between(60, 520));
        }
        sharingAsDue(name, x, curves, 1000);
    }

    private List<int[]> waysAsDue(String name, CoastPull x, int leg, List<int[]> ways) {
        List<int[]> curve = new ArrayList<>();
        for (int t = 0; t <= 1000; t += t < 400 ? 1 : 100) {
            int[] best = bestOf(ways, t, BY_TIME);
            KIT.due(name + " best " + t, x.best(leg, t), best == null ? NONE : best[1]);
            KIT.due(name + " time " + t, x.bestTime(leg, t), best == null ? NONE : best[0]);
            if (best != null && best[0] == t) {
                curve.add(best);
                for (int i = 2; i < best.length; i++) {
                    int post = x.leg(leg, false) + i - 2;
                    KIT.due(name + " speed " + t, x.bestSpeed(leg, t, post), best[i]);
                }
            }
        }
        KIT.due(name + " fastest", x.fastest(leg), curve.isEmpty() ? NONE : curve.get(0)[0]);
        KIT.due(name + " curve", x.curve(leg), curve.size());
        for (int i = 0; i < curve.size(); i++) {
            KIT.due(name + " time of pair " + i, x.point(leg, i, false), curve.get(i)[0]);
            KIT.due(name + " power of pair " + i, x.point(leg, i, true), curve.get(i)[1]);
        }
        return curve;
    }

    /** Power, then the times leg by leg, of the best sharing; null if there is none. */
    private static int[] bestSharing(List<List<int[]>> curves, int leg, int left, int[] before) {
        if (leg == curves.size()) {
            return before;
        }
        int[] best = null;
        for (int[] pair : curves.get(leg)) {
            if (pair[0] <= left) {
                int[] longer = before.clone();
                longer[0] += pair[1];
                longer[leg + 1] = pair[0];
                int[] whole = bestSharing(curves, leg + 1, left - pair[0], longer);
                // The curve goes on to longer times: only less power makes a later one better.
                if (whole != null && (best == null || whole[0] < best[0])) {
                    best = whole;
                }
            }
        }
        return best;
    }

    // A sharing may have any way on a leg, on its curve or not; a list of all of them is made where it is short.
    private void sharingsOfAllWays(String name, CoastPull x, List<List<int[]>> waysOfLegs) {
        long sharings = 1;
        for (List<int[]> ways : waysOfLegs) {
            sharings *= ways.size();
        }
        if (sharings > 3000) {
            return;
        }
        List<int[]> all = new ArrayList<>();
        listSharings(waysOfLegs, 0, new int[2], all);
        for (int i = 0; i < 12; i++) {
            int t = i == 0 ? 1000 : between(60, 520);
            int[] best = bestOf(all, t, LEG_BY_LEG);
            KIT.due(name + " of all sharings, share " + t, x.share(t), best == null ? NONE : best[1]);
            for (int leg = 0; leg < waysOfLegs.size(); leg++) {
                KIT.due(name + " of all sharings, " + t + " of " + leg, x.shareTime(t, leg),
                    best == null ? NONE : best[leg + 2]);
            }
        }
    }

    /** Time together, power together, then the times leg by leg. */
    private static void listSharings(List<List<int[]>> waysOfLegs, int leg, int[] sharing, List<int[]> all) {
        if (leg == waysOfLegs.size()) {
            all.add(sharing);
            return;
        }
        for (int[] way : waysOfLegs.get(leg)) {
            int[] longer = java.util.Arrays.copyOf(sharing, sharing.length + 1);
            longer[0] += way[0];
            longer[1] += way[1];
            longer[sharing.length] = way[0];
            listSharings(waysOfLegs, leg + 1, longer, all);
        }
    }

    private void sharingAsDue(String name, CoastPull x, List<List<int[]>> curves, int t) {
        int[] best = bestSharing(curves, 0, t, new int[curves.size() + 1]);
        KIT.due(name + " share " + t, x.share(t), best == null ? NONE : best[0]);
        for (int leg = 0; leg < curves.size(); leg++) {
            KIT.due(name + " share " + t + " of " + leg, x.shareTime(t, leg), best == null ? NONE : best[leg + 1]);
        }
        if (best != null) {
            int needed = x.needs(best[0]);
            KIT.holds(name + " needs at most " + t, needed >= 0 && needed <= t);
            KIT.holds(name + " needs so much power", needed >= 0 && x.share(needed) <= best[0]);
            KIT.holds(name + " needs no less", needed <= 0 || x.share(needed - 1) == NONE
                || x.share(needed - 1) > best[0]);
        }
    }
}
