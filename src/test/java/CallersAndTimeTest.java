import java.util.ArrayList;
import java.util.List;
import java.util.function.ToIntFunction;

/** Promises 7 to 9: call, pass, undo. */
public final class CallersAndTimeTest {
    private static final Check CHECK = new Check();

    public static void main(String[] args) {
        promise7Call();
        promise7CallIsGivenTheCheapestCar();
        promise7FortyCallers();
        promise7CallRefuses();
        promise8LookingAreGivenCarsByNumber();
        promise8TakeAndLetOutInOneTick();
        promise8FullCarPassesBy();
        promise8PlacesAreTakenByNumber();
        promise8StopsOnTheWay();
        promise8AimIsTheNearestGoal();
        promise8AimIsTheFirstWhoWaits();
        promise8PassRefuses();
        promise8LastTick();
        promise9UndoRestoresAll();
        promise9KeepsFiveStates();
        promise9EveryActionIsRecorded();
        CHECK.end("CallersAndTimeTest");
    }

    private static void promise7Call() {
        GoalLifts lifts = house(1, 0, 9, 2);
        lifts.pass(7);
        CHECK.due("call(3, 7)", lifts.call(3, 7), 0);
        CHECK.due("call(3, 15)", lifts.call(3, 15), 1);
        CHECK.due("number of callers", lifts.count(3), 2);
        int[] given = {3, 7, 1, 0, 7, Check.NONE, Check.NONE, 1};
        int[] looking = {3, 15, 0, Check.NONE, 7, Check.NONE, Check.NONE, 0};
        for (int what = 0; what <= 7; what++) {
            CHECK.due("caller(0, " + what + ")", lifts.caller(0, what), given[what]);
            CHECK.due("caller(1, " + what + ")", lifts.caller(1, what), looking[what]);
        }
    }

    private static void promise7CallIsGivenTheCheapestCar() {
        GoalLifts lifts = house(2, 0, 15, 1);
        lifts.call(0, 9);
        CHECK.due("of two as cheap the smaller number", lifts.caller(0, 3), 0);
        // Car 0 costs 0 + 2 * 2 + 1, car 1 costs 0 + 2 * 2.
        lifts.call(0, 9);
        CHECK.due("the one who waits makes car 0 dearer", lifts.caller(1, 3), 1);
        // Car 0 costs 2 + 2 * 3 + 1, and so does car 1.
        lifts.call(2, 9);
        CHECK.due("as cheap again", lifts.caller(2, 3), 0);
        lifts.addCar(2, 12, 1);
        // Car 2 costs 0 + 2 * 2, the others 2 + 2 * 3 + 2 and 2 + 2 * 3 + 1.
        lifts.call(2, 9);
        CHECK.due("a car that is nearer", lifts.caller(3, 3), 2);
        lifts.call(2, 13);
        CHECK.due("a goal out of the near one's zone", lifts.caller(4, 3), 1);
    }

    private static void promise7FortyCallers() {
        GoalLifts lifts = house(1, 0, 15, 8);
        for (int caller = 0; caller < 40; caller++) {
            CHECK.due("call " + caller, lifts.call(caller % 16, (caller + 1) % 16), caller);
        }
        CHECK.due("one call more", lifts.call(0, 1), Check.CAPACITY);
        CHECK.due("wrong floors with forty", lifts.call(1, 1), Check.INVALID);
        CHECK.due("wrong goal with forty", lifts.call(1, 16), Check.INVALID);
        CHECK.due("number of callers", lifts.count(3), 40);
        CHECK.due("all are there in the end", lifts.pass(200), 40);
        CHECK.due("those who are there stay callers", lifts.call(0, 1), Check.CAPACITY);
    }

    private static void promise7CallRefuses() {
        int[][] wrong = {{-1, 0}, {0, -1}, {16, 0}, {0, 16}, {0, 0}, {15, 15}, {Integer.MAX_VALUE, 0},
            {Integer.MIN_VALUE, 0}, {0, Integer.MAX_VALUE}, {0, Integer.MIN_VALUE}};
        for (int[] w : wrong) {
            CHECK.refused("call(" + w[0] + ", " + w[1] + ")", () -> house(2, 0, 15, 1),
                l -> l.call(w[0], w[1]), Check.INVALID);
        }
    }

    private static void promise8LookingAreGivenCarsByNumber() {
        GoalLifts lifts = house(2, 0, 15, 1);
        lifts.hold(0, 1);
        lifts.hold(1, 1);
        lifts.call(0, 9);
        lifts.call(0, 9);
        lifts.hold(0, 0);
        lifts.hold(1, 0);
        CHECK.due("looking before the tick", lifts.count(4), 2);
        CHECK.due("pass(1)", lifts.pass(1), 0);
        CHECK.due("the first is given car 0", lifts.caller(0, 3), 0);
        CHECK.due("the second is given car 1, cheaper then", lifts.caller(1, 3), 1);
        CHECK.due("both ride in the same tick", lifts.count(6), 2);
        CHECK.due("the ride began in the tick 0", lifts.caller(1, 5), 0);
    }

    private static void promise8TakeAndLetOutInOneTick() {
        GoalLifts lifts = house(1, 0, 15, 1);
        lifts.call(0, 3);
        lifts.call(3, 6);
        CHECK.due("pass(4)", lifts.pass(4), 0);
        CHECK.due("floor", lifts.car(0, 0), 3);
        CHECK.due("pass(1)", lifts.pass(1), 1);
        CHECK.due("there in the tick 4", lifts.caller(0, 6), 4);
        CHECK.due("who was let out made room", lifts.caller(1, 5), 4);
        CHECK.due("one stop for both", lifts.count(10), 2);
        CHECK.due("floor", lifts.car(0, 0), 3);
        CHECK.due("pass(3)", lifts.pass(3), 1);
        CHECK.due("pass(1)", lifts.pass(1), 2);
        CHECK.due("travelled", lifts.car(0, 6), 6);
        CHECK.due("pass(9)", lifts.pass(9), 2);
        CHECK.due("without callers it stays", lifts.car(0, 6), 6);
        CHECK.due("without callers it makes no stops", lifts.count(10), 3);
    }

    private static void promise8FullCarPassesBy() {
        GoalLifts lifts = house(1, 0, 15, 1);
        lifts.call(0, 5);
        lifts.call(2, 6);
        CHECK.due("pass(6)", lifts.pass(6), 0);
        CHECK.due("a full car does not stop", lifts.car(0, 0), 5);
        CHECK.due("stops", lifts.count(10), 1);
        CHECK.due("pass(1)", lifts.pass(1), 1);
        CHECK.due("aim", lifts.car(0, 5), 2);
        lifts.pass(4);
        CHECK.due("it comes back", lifts.caller(1, 5), 10);
        CHECK.due("pass(5)", lifts.pass(5), 2);
        CHECK.due("there", lifts.caller(1, 6), 15);
    }

    private static void promise8PlacesAreTakenByNumber() {
        GoalLifts lifts = house(1, 0, 15, 2);
        lifts.call(0, 5);
        lifts.call(0, 4);
        lifts.call(0, 3);
        lifts.pass(1);
        CHECK.due("as many as it has places", lifts.car(0, 2), 2);
        CHECK.due("caller 0 rides", lifts.caller(0, 2), 2);
        CHECK.due("caller 1 rides", lifts.caller(1, 2), 2);
        CHECK.due("caller 2 waits", lifts.caller(2, 2), 1);
        lifts.pass(1);
        CHECK.due("full, it does not stop for those left", lifts.car(0, 0), 1);
    }

    private static void promise8StopsOnTheWay() {
        GoalLifts lifts = house(1, 0, 15, 2);
        lifts.call(0, 5);
        lifts.call(2, 6);
        lifts.pass(4);
        CHECK.due("taken on the way", lifts.caller(1, 5), 3);
        lifts.pass(4);
        CHECK.due("let out on the way", lifts.caller(0, 6), 7);
        lifts.pass(2);
        CHECK.due("let out at the end", lifts.caller(1, 6), 9);
        CHECK.due("stops", lifts.count(10), 4);
    }

    private static void promise8AimIsTheNearestGoal() {
        int[][] goals = {{7, 3, 3}, {3, 7, 3}, {9, 4, 4}, {2, 7, 7}, {0, 10, 0}, {11, 0, 0}, {0, 9, 9}};
        for (int[] g : goals) {
            GoalLifts lifts = house(1, 0, 15, 2);
            lifts.call(5, g[0]);
            lifts.call(5, g[1]);
            lifts.pass(6);
            CHECK.due("aim between " + g[0] + " and " + g[1], lifts.car(0, 5), g[2]);
            lifts.pass(1);
            CHECK.due("floor on the way to " + g[2], lifts.car(0, 0), g[2] > 5 ? 6 : 4);
        }
    }

    private static void promise8AimIsTheFirstWhoWaits() {
        GoalLifts lifts = house(1, 0, 15, 2);
        lifts.call(9, 8);
        lifts.call(2, 1);
        CHECK.due("the smallest number, not the nearest floor", lifts.car(0, 5), 9);
        lifts.pass(2);
        CHECK.due("on the floor of the other", lifts.car(0, 0), 2);
        lifts.pass(1);
        CHECK.due("who is taken", lifts.caller(1, 5), 2);
        CHECK.due("the goal of who rides comes before the floor of who waits", lifts.car(0, 5), 1);
        lifts.pass(2);
        CHECK.due("who is brought", lifts.caller(1, 6), 4);
        CHECK.due("then the one who waits", lifts.car(0, 5), 9);
    }

    private static void promise8PassRefuses() {
        for (int ticks : new int[] {0, -1, 201, Integer.MAX_VALUE, Integer.MIN_VALUE}) {
            CHECK.refused("pass(" + ticks + ")", () -> house(2, 0, 15, 1), l -> l.pass(ticks), Check.INVALID);
        }
    }

    private static void promise8LastTick() {
        GoalLifts lifts = new GoalLifts();
        for (int i = 0; i < 100; i++) {
            CHECK.due("pass(200)", lifts.pass(200), 0);
        }
        CHECK.due("the last tick", lifts.count(0), 20000);
        CHECK.due("its hour", lifts.count(1), 333 % 24);
        CHECK.due("pass(1)", lifts.pass(1), Check.STATE);
        CHECK.due("pass(200)", lifts.pass(200), Check.STATE);
        CHECK.due("pass(201)", lifts.pass(201), Check.INVALID);
        CHECK.due("pass(0)", lifts.pass(0), Check.INVALID);
        CHECK.due("the tick stays", lifts.count(0), 20000);
        CHECK.due("the history stays", lifts.undo(), 4);
        CHECK.due("the tick before", lifts.count(0), 19800);
        CHECK.due("pass(199)", lifts.pass(199), 0);
        CHECK.due("pass(2)", lifts.pass(2), Check.STATE);
        CHECK.due("pass(1)", lifts.pass(1), 0);
        CHECK.due("the last tick again", lifts.count(0), 20000);
    }

    private static void promise9UndoRestoresAll() {
        List<ToIntFunction<GoalLifts>> actions = List.of(
            l -> l.addCar(3, 9, 2), l -> l.setAwake(0, 2), l -> l.call(3, 8), l -> l.call(12, 2),
            l -> l.pass(2), l -> l.hold(0, 1), l -> l.call(4, 8), l -> l.fail(0), l -> l.addCar(0, 15, 1),
            l -> l.pass(7), l -> l.repair(0), l -> l.pass(61), l -> l.setAwake(1, 1), l -> l.pass(200));
        for (int last = 0; last < actions.size(); last++) {
            GoalLifts lifts = new GoalLifts();
            for (int i = 0; i < last; i++) {
                actions.get(i).applyAsInt(lifts);
            }
            List<Integer> before = withoutHistory(Check.seen(lifts));
            actions.get(last).applyAsInt(lifts);
            List<Integer> after = withoutHistory(Check.seen(lifts));
            CHECK.due("undo() of action " + last, lifts.undo(), Math.min(last, 4));
            CHECK.dueAll("seen after undo() of action " + last, withoutHistory(Check.seen(lifts)), before);
            actions.get(last).applyAsInt(lifts);
            CHECK.dueAll("seen after action " + last + " again", withoutHistory(Check.seen(lifts)), after);
        }
        GoalLifts lifts = new GoalLifts();
        lifts.setAwake(9, 3);
        lifts.undo();
        CHECK.due("undo() restores the awake cars of other hours too", lifts.setAwake(9, 1), 5);
    }

    private static List<Integer> withoutHistory(List<Integer> seen) {
        List<Integer> rest = new ArrayList<>(seen);
        rest.remove(13);
        return rest;
    }

    private static void promise9KeepsFiveStates() {
        GoalLifts lifts = new GoalLifts();
        CHECK.due("undo() of a new object", lifts.undo(), Check.STATE);
        for (int hour = 0; hour < 7; hour++) {
            lifts.pass(hour + 1);
            CHECK.due("states", lifts.count(13), Math.min(hour + 1, 5));
        }
        // The ticks were 0, 1, 3, 6, 10, 15, 21; the two oldest states are dropped.
        int[] ticks = {21, 15, 10, 6, 3};
        for (int i = 0; i < ticks.length; i++) {
            CHECK.due("undo()", lifts.undo(), 4 - i);
            CHECK.due("tick", lifts.count(0), ticks[i]);
        }
        CHECK.due("undo() without states", lifts.undo(), Check.STATE);
        CHECK.due("tick", lifts.count(0), 3);
        lifts.pass(5);
        lifts.pass(5);
        CHECK.due("undo()", lifts.undo(), 1);
        lifts.pass(1);
        CHECK.due("states", lifts.count(13), 2);
        CHECK.due("undo()", lifts.undo(), 1);
        CHECK.due("tick", lifts.count(0), 8);
        CHECK.due("undo()", lifts.undo(), 0);
        CHECK.due("tick", lifts.count(0), 3);
        CHECK.due("undo() is not recorded", lifts.undo(), Check.STATE);
    }

    private static void promise9EveryActionIsRecorded() {
        GoalLifts lifts = new GoalLifts();
        lifts.addCar(0, 5, 1);
        CHECK.due("states after addCar", lifts.count(13), 1);
        lifts.setAwake(0, 5);
        CHECK.due("states after setAwake", lifts.count(13), 2);
        lifts.hold(0, 1);
        CHECK.due("states after hold", lifts.count(13), 3);
        lifts.fail(0);
        CHECK.due("states after fail", lifts.count(13), 4);
        lifts.undo();
        lifts.undo();
        lifts.fail(0);
        lifts.repair(0);
        CHECK.due("states after repair", lifts.count(13), 4);
        lifts.call(0, 5);
        CHECK.due("states after call", lifts.count(13), 5);
        lifts.undo();
        lifts.pass(1);
        CHECK.due("states after pass", lifts.count(13), 5);
    }

    private static GoalLifts house(int cars, int lowest, int highest, int places) {
        GoalLifts lifts = new GoalLifts();
        for (int car = 0; car < cars; car++) {
            lifts.addCar(lowest, highest, places);
        }
        return lifts;
    }
}
