import java.util.ArrayList;
import java.util.List;

/**
 * What must leave no trace: a call that is refused, a question that was asked before, and all that is done with
 * another object. Two objects are brought up alike, one of them with the call beside, and then all later calls must
 * answer alike.
 */
public final class UnchangedTests {
    private static final int UNKNOWN = -1, OUTSIDE = -2, STATE = -3, FULL = -4;
    private static final int LOWEST = Integer.MIN_VALUE, HIGHEST = Integer.MAX_VALUE;
    private static final int[] TRAIN_LEAST = {1, 0, 1, 1, 0};
    private static final int[] TRAIN_MOST = {20, 20, 400, 400, 10};
    // With what brings an object up and what ends it, an object stays within its 512 calls.
    private static final int QUESTIONS_AN_OBJECT = 320;
    private static final TestKit KIT = new TestKit();

    private interface Deed {
        int on(CoastPull x);
    }

    private record Call(String name, int answer, Deed deed) { }

    private record State(String name, int cells, boolean isFull, Deed deed) {
        CoastPull made() {
            CoastPull x = new CoastPull();
            deed.on(x);
            return x;
        }
    }

    public static void main(String[] args) {
        for (State state : states()) {
            for (Call call : refusedCalls(state)) {
                refusedLeavesNoTrace(state, call);
            }
            for (Call change : changes(state)) {
                askedBeforeLeavesNoTrace(state, change);
            }
            for (State other : states()) {
                anotherObjectLeavesNoTrace(state, other);
            }
        }
        lastOf512Calls();
        KIT.finish();
    }

    // ---- the states

    private static List<State> states() {
        return List.of(
            new State("new", 1, false, x -> 0),
            new State("one cell, full log", 1, true, UnchangedTests::oneCell),
            new State("a leg without a way", 4, false, UnchangedTests::legWithoutAWay),
            new State("sixteen cells, some log", 16, false, x -> sixteenCells(x, 5)),
            new State("sixteen cells, full log", 16, true, x -> sixteenCells(x, 17)));
    }

    private static int oneCell(CoastPull x) {
        x.cell(0, -3, 4);
        x.train(4, 10);
        x.log(4);
        return x.log(5);
    }

    private static int legWithoutAWay(CoastPull x) {
        x.line(4);
        x.stop(1, true);
        x.log(2);
        return x.log(0);
    }

    private static int sixteenCells(CoastPull x, int speeds) {
        x.line(16);
        int[] numbers = {3, 2, 90, 60, 7};
        for (int what = 0; what < numbers.length; what++) {
            x.train(what, numbers[what]);
        }
        for (int k = 0; k < 16; k++) {
            x.cell(k, k * 5 % 9 - 4, 2 + k * 3 % 5);
        }
        x.stop(5, true);
        x.stop(9, true);
        for (int i = 0; i < speeds; i++) {
            x.log(i * 4 % 7);
        }
        return x.count(2);
    }

    // ---- calls that are refused

    private static List<Call> refusedCalls(State state) {
        List<Call> calls = new ArrayList<>();
        int n = state.cells();
        for (int cells : new int[] {LOWEST, -1, 0, 17, HIGHEST}) {
            calls.add(new Call("line(" + cells + ")", OUTSIDE, x -> x.line(cells)));
        }
        for (int k : new int[] {LOWEST, -1, n, HIGHEST}) {
            calls.add(new Call("cell(" + k + ", 3, 1)", UNKNOWN, x -> x.cell(k, 3, 1)));
            calls.add(new Call("force(" + k + ", 1, 1)", UNKNOWN, x -> x.force(k, 1, 1)));
        }
        for (int grade : new int[] {LOWEST, -5, 5, HIGHEST}) {
            calls.add(new Call("cell(0, " + grade + ", 1)", OUTSIDE, x -> x.cell(0, grade, 1)));
        }
        for (int limit : new int[] {LOWEST, 0, 7, HIGHEST}) {
            calls.add(new Call("cell(0, 3, " + limit + ")", OUTSIDE, x -> x.cell(0, 3, limit)));
        }
        addRefusedStops(calls, n);
        addRefusedTrain(calls);
        addRefusedQuestions(calls);
        for (int speed : new int[] {LOWEST, -1, 7, HIGHEST}) {
            calls.add(new Call("log(" + speed + ")", OUTSIDE, x -> x.log(speed)));
        }
        for (int speed = 0; speed <= 6 && state.isFull(); speed++) {
            int told = speed;
            calls.add(new Call("full: log(" + told + ")", FULL, x -> x.log(told)));
        }
        return calls;
    }

    private static void addRefusedStops(List<Call> calls, int n) {
        for (boolean is : new boolean[] {true, false}) {
            for (int post : new int[] {LOWEST, -1, n + 1, HIGHEST}) {
                calls.add(new Call("stop(" + post + ", " + is + ")", UNKNOWN, x -> x.stop(post, is)));
            }
            for (int post : new int[] {0, n}) {
                calls.add(new Call("stop(" + post + ", " + is + ")", STATE, x -> x.stop(post, is)));
            }
        }
    }

    private static void addRefusedTrain(List<Call> calls) {
        for (int what : new int[] {LOWEST, -1, 5, HIGHEST}) {
            calls.add(new Call("train(" + what + ", 2)", OUTSIDE, x -> x.train(what, 2)));
        }
        for (int what = 0; what < 5; what++) {
            int number = what;
            for (int v : new int[] {LOWEST, TRAIN_LEAST[what] - 1, TRAIN_MOST[what] + 1, HIGHEST}) {
                calls.add(new Call("train(" + what + ", " + v + ")", OUTSIDE, x -> x.train(number, v)));
            }
        }
    }

    private static void addRefusedQuestions(List<Call> calls) {
        calls.add(new Call("has(5)", OUTSIDE, x -> x.has(5)));
        calls.add(new Call("leg(16, true)", UNKNOWN, x -> x.leg(16, true)));
        calls.add(new Call("power(0, 7, 1)", OUTSIDE, x -> x.power(0, 7, 1)));
        calls.add(new Call("fastest(16)", UNKNOWN, x -> x.fastest(16)));
        calls.add(new Call("best(0, 1001)", OUTSIDE, x -> x.best(0, 1001)));
        calls.add(new Call("bestSpeed(0, -1, 0)", OUTSIDE, x -> x.bestSpeed(0, -1, 0)));
        calls.add(new Call("point(-1, 0, true)", UNKNOWN, x -> x.point(-1, 0, true)));
        calls.add(new Call("share(1001)", OUTSIDE, x -> x.share(1001)));
        calls.add(new Call("shareTime(-1, 0)", OUTSIDE, x -> x.shareTime(-1, 0)));
        calls.add(new Call("judged(5)", OUTSIDE, x -> x.judged(5)));
        calls.add(new Call("count(3)", OUTSIDE, x -> x.count(3)));
    }

    private static void refusedLeavesNoTrace(State state, Call call) {
        alike(state.name() + ", " + call.name(), state.cells(), x -> 0, x -> {
            int answer = call.deed().on(x);
            KIT.due(state.name() + ", " + call.name(), answer, call.answer());
            return answer;
        }, state);
    }

    // ---- changes, with all asked before them and without

    private static List<Call> changes(State state) {
        List<Call> calls = new ArrayList<>();
        int n = state.cells();
        calls.add(new Call("a grade", 0, x -> x.cell(n / 2, 4, 3)));
        calls.add(new Call("a limit", 0, x -> x.cell(n - 1, 0, 1)));
        calls.add(new Call("a stop", 0, x -> x.stop(n / 2 + 1, true)));
        calls.add(new Call("a stop less", 0, x -> x.stop(5, false)));
        calls.add(new Call("weight", 0, x -> x.train(0, 5)));
        calls.add(new Call("drag", 0, x -> x.train(1, 0)));
        calls.add(new Call("pull", 0, x -> x.train(2, 30)));
        calls.add(new Call("brake", 0, x -> x.train(3, 20)));
        calls.add(new Call("back", 0, x -> x.train(4, 9)));
        calls.add(new Call("a line", 0, x -> x.line(n)));
        calls.add(new Call("a longer line", 0, x -> x.line(Math.min(16, n + 3))));
        calls.add(new Call("a speed", 0, x -> x.log(3)));
        calls.add(new Call("an empty log", 0, x -> x.clear()));
        return calls;
    }

    private static void askedBeforeLeavesNoTrace(State state, Call change) {
        alike(state.name() + ", asked before " + change.name(), 16, change.deed(), x -> {
            for (int leg = 0; leg < 4; leg++) {
                x.fastest(leg);
                x.bestSpeed(leg, 400, leg);
                x.shareTime(500, leg);
            }
            for (int what = 0; what < 5; what++) {
                x.judged(what);
            }
            x.needs(50);
            return change.deed().on(x);
        }, state);
    }

    // ---- another object

    // One object answers all before the other one is made: what both shared would not be seen side by side.
    private static void anotherObjectLeavesNoTrace(State state, State other) {
        List<Deed> questions = questions(state.cells());
        int asked = Math.min(questions.size(), QUESTIONS_AN_OBJECT);
        CoastPull alone = state.made();
        int[] answers = new int[asked];
        for (int i = 0; i < asked; i++) {
            answers[i] = questions.get(i).on(alone);
        }
        CoastPull x = state.made();
        CoastPull beside = other.made();
        beside.train(0, 2);
        beside.cell(0, 1, 5);
        beside.log(3);
        for (int i = 0; i < asked; i++) {
            int answer = i % 2 == 0 ? beside.cell(0, i % 8 - 4, 5) : beside.share(700);
            KIT.holds("the object beside answers " + answer, answer != OUTSIDE);
            KIT.due(state.name() + " beside " + other.name() + ", question " + i, questions.get(i).on(x), answers[i]);
        }
    }

    // ---- what later calls show

    /** Whether two objects of a state answer alike, one after a deed, the other after another. */
    private static void alike(String name, int cells, Deed one, Deed other, State state) {
        List<Deed> questions = questions(cells);
        for (int from = 0; from < questions.size(); from += QUESTIONS_AN_OBJECT) {
            CoastPull x = state.made();
            CoastPull y = state.made();
            one.on(x);
            other.on(y);
            int to = Math.min(questions.size(), from + QUESTIONS_AN_OBJECT);
            for (int i = from; i < to; i++) {
                KIT.due(name + ", question " + i, questions.get(i).on(y), questions.get(i).on(x));
            }
            alikeAtTheEnd(name, cells, x, y);
        }
    }

    private static List<Deed> questions(int cells) {
        List<Deed> questions = new ArrayList<>();
        for (int i = -1; i <= 5; i++) {
            int what = i;
            questions.add(x -> x.has(what));
            questions.add(x -> x.judged(what));
            questions.add(x -> x.count(what));
        }
        for (int i = 0; i <= cells; i++) {
            int k = i;
            questions.add(x -> x.force(k, 2, 2));
            questions.add(x -> x.power(k, 1, 0));
            questions.add(x -> x.time(k, 1, 2));
            for (int u = 1; u <= 6; u++) {
                int speed = u;
                questions.add(x -> x.fault(k, speed, speed));
            }
        }
        for (int i = 0; i <= Math.min(cells, 4); i++) {
            addQuestionsOfLeg(questions, i, cells);
        }
        for (int i = -20; i <= 200; i += 10) {
            int power = i;
            questions.add(x -> x.needs(power));
        }
        for (int i = 0; i <= 1000; i += 40) {
            int t = i;
            questions.add(x -> x.share(t));
        }
        return questions;
    }

    private static void addQuestionsOfLeg(List<Deed> questions, int leg, int cells) {
        questions.add(x -> x.leg(leg, false));
        questions.add(x -> x.leg(leg, true));
        questions.add(x -> x.fastest(leg));
        questions.add(x -> x.curve(leg));
        for (int i = 0; i < 8; i++) {
            int pair = i * i;
            questions.add(x -> x.point(leg, pair, false));
            questions.add(x -> x.point(leg, pair, true));
        }
        for (int i = 0; i <= 1000; i += 200) {
            int t = i;
            questions.add(x -> x.best(leg, t));
            questions.add(x -> x.bestTime(leg, t));
            questions.add(x -> x.shareTime(t, leg));
            for (int post = 0; post <= cells && t > 0; post += 3) {
                int at = post;
                questions.add(x -> x.bestSpeed(leg, t, at));
            }
        }
    }

    // What only calls that change something show: limits, the log's next post, how many cells and speeds there were.
    private static void alikeAtTheEnd(String name, int cells, CoastPull x, CoastPull y) {
        KIT.due(name + ", log", y.log(6), x.log(6));
        for (int what = 0; what < 5; what++) {
            KIT.due(name + ", judged after log", y.judged(what), x.judged(what));
        }
        KIT.due(name + ", clear", y.clear(), x.clear());
        for (int what = 0; what < 5; what++) {
            KIT.due(name + ", train", y.train(what, 4), x.train(what, 4));
        }
        for (int k = 0; k <= cells; k++) {
            KIT.due(name + ", cell " + k, y.cell(k, 0, 6), x.cell(k, 0, 6));
            KIT.due(name + ", stop " + k, y.stop(k, k % 2 == 0), x.stop(k, k % 2 == 0));
        }
        KIT.due(name + ", share", y.share(900), x.share(900));
        KIT.due(name + ", line", y.line(9), x.line(9));
    }

    // ---- 512 calls

    // Eight legs of two flat cells, each driven 0 1 0 for twice the drag: a change and its dearest question in turn.
    private static void lastOf512Calls() {
        CoastPull x = new CoastPull();
        x.line(16);
        for (int post = 2; post < 16; post += 2) {
            x.stop(post, true);
        }
        for (int call = 9; call < 512; call += 2) {
            int drag = call % 20 + 1;
            x.train(1, drag);
            KIT.due("call " + (call + 1) + " of 512", x.share(960), 16 * drag);
        }
    }
}
