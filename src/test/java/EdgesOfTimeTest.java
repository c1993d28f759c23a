/** The edges of promises 7 to 9: call, pass, undo. */
public final class EdgesOfTimeTest {
    private static final Check CHECK = new Check();

    public static void main(String[] args) {
        callLeastAndGreatestFloors();
        callSameFloors();
        callWithoutCars();
        callForty();
        callWrongOfForty();
        callAfterUndoOfTheFortieth();
        callIsGivenAtOnce();
        callAtTheLastTick();
        passLeastAndGreatestTicks();
        passToTheLastTick();
        passFromTheLastTick();
        passWrongBeforeState();
        passCountsThoseThere();
        undoEmpty();
        undoOfEachAction();
        undoRestoresCallersAndCars();
        undoToTheFirstState();
        undoDropsTheOldest();
        undoAfterUndo();
        undoOfRefusedCalls();
        undoAtTheLastTick();
        CHECK.end("EdgesOfTimeTest");
    }

    /** "floor: 0 to 15", "goal: 0 to 15" */
    private static void callLeastAndGreatestFloors() {
        call(0, 1, 0);
        call(0, 15, 0);
        call(1, 0, 0);
        call(15, 0, 0);
        call(15, 14, 0);
        call(-1, 0, Check.INVALID);
        call(-1, 15, Check.INVALID);
        call(0, -1, Check.INVALID);
        call(16, 0, Check.INVALID);
        call(16, 15, Check.INVALID);
        call(15, 16, Check.INVALID);
        call(0, 16, Check.INVALID);
        call(-1, 16, Check.INVALID);
        call(Integer.MIN_VALUE, 0, Check.INVALID);
        call(0, Integer.MIN_VALUE, Check.INVALID);
        call(Integer.MAX_VALUE, 0, Check.INVALID);
        call(0, Integer.MAX_VALUE, Check.INVALID);
    }

    /** "another floor", "or both are the same" */
    private static void callSameFloors() {
        for (int floor = -1; floor <= 16; floor++) {
            call(floor, floor, Check.INVALID);
        }
    }

    private static void call(int floor, int goal, int due) {
        String call = "call(" + floor + ", " + goal + ")";
        GoalLifts lifts = Houses.with(0, 15, 1);
        CHECK.due(call, lifts.call(floor, goal), due);
        CHECK.due("callers after " + call, lifts.count(3), due == 0 ? 1 : 0);
        CHECK.due("states after " + call, lifts.count(13), due == 0 ? 2 : 1);
        CHECK.due("floor after " + call, lifts.caller(0, 0), due == 0 ? floor : Check.INVALID);
        CHECK.due("goal after " + call, lifts.caller(0, 1), due == 0 ? goal : Check.INVALID);
    }

    /** A house without cars takes calls too: the caller is looking. */
    private static void callWithoutCars() {
        GoalLifts lifts = new GoalLifts();
        CHECK.due("call(0, 15)", lifts.call(0, 15), 0);
        CHECK.due("looking", lifts.caller(0, 2), 0);
        CHECK.due("given", lifts.caller(0, 7), 0);
        CHECK.due("pass(200)", lifts.pass(200), 0);
        CHECK.due("looking still", lifts.count(4), 1);
    }

    /** "CAPACITY_EXCEEDED if there are 40 callers" */
    private static void callForty() {
        GoalLifts lifts = Houses.call(Houses.with(0, 15, 8), 39, 0, 15);
        CHECK.due("the fortieth", lifts.call(0, 15), 39);
        CHECK.due("the 41st", lifts.call(0, 15), Check.CAPACITY);
        CHECK.due("callers", lifts.count(3), 40);
        CHECK.due("caller(39, 0)", lifts.caller(39, 0), 0);
        CHECK.due("caller(40, 0)", lifts.caller(40, 0), Check.INVALID);
        CHECK.due("who wait for the car", lifts.car(0, 3), 40);
        lifts.pass(200);
        CHECK.due("all are there", lifts.count(7), 40);
        CHECK.due("and are callers still", lifts.call(0, 15), Check.CAPACITY);
    }

    /** INVALID_ARGUMENT is listed ahead of CAPACITY_EXCEEDED. */
    private static void callWrongOfForty() {
        int[][] wrong = {{-1, 0}, {16, 0}, {0, -1}, {0, 16}, {0, 0}, {15, 15}};
        for (int[] w : wrong) {
            GoalLifts lifts = Houses.call(new GoalLifts(), 40, 0, 15);
            CHECK.due("call(" + w[0] + ", " + w[1] + ") of forty", lifts.call(w[0], w[1]), Check.INVALID);
        }
    }

    /** A caller who is undone makes room for another one. */
    private static void callAfterUndoOfTheFortieth() {
        GoalLifts lifts = Houses.call(Houses.with(0, 15, 8), 40, 0, 15);
        lifts.undo();
        CHECK.due("callers", lifts.count(3), 39);
        CHECK.due("the fortieth is none", lifts.caller(39, 0), Check.INVALID);
        CHECK.due("who wait for the car", lifts.car(0, 3), 39);
        CHECK.due("another fortieth", lifts.call(3, 4), 39);
        CHECK.due("its floor", lifts.caller(39, 0), 3);
        CHECK.due("the 41st", lifts.call(3, 4), Check.CAPACITY);
    }

    /** "the caller is given a car at once, if one can be given" */
    private static void callIsGivenAtOnce() {
        GoalLifts lifts = Houses.with(0, 9, 1);
        lifts.call(0, 9);
        lifts.call(0, 10);
        CHECK.due("waiting", lifts.caller(0, 2), 1);
        CHECK.due("how often given", lifts.caller(0, 7), 1);
        CHECK.due("out of the zone, looking", lifts.caller(1, 2), 0);
        lifts.hold(0, 1);
        CHECK.due("with the car held, looking", lifts.caller(lifts.call(0, 9), 2), 0);
        lifts.hold(0, 0);
        lifts.setAwake(0, 1);
        CHECK.due("with one car awake, waiting", lifts.caller(lifts.call(0, 9), 2), 1);
        lifts.fail(0);
        CHECK.due("with the car failed, looking", lifts.caller(lifts.call(0, 9), 2), 0);
        lifts.repair(0);
        CHECK.due("with the car repaired, waiting", lifts.caller(lifts.call(0, 9), 2), 1);
        CHECK.due("those before are looking until the tick", lifts.count(4), 5);
    }

    private static void callAtTheLastTick() {
        GoalLifts lifts = Houses.passTo(Houses.with(0, 15, 1), 20000);
        CHECK.due("call(0, 15)", lifts.call(0, 15), 0);
        CHECK.due("its tick", lifts.caller(0, 4), 20000);
        CHECK.due("waiting", lifts.caller(0, 2), 1);
    }

    /** "ticks: 1 to 200" */
    private static void passLeastAndGreatestTicks() {
        int[][] ticks = {{1, 1}, {2, 2}, {199, 199}, {200, 200}, {0, 0}, {-1, 0}, {201, 0}, {-200, 0},
            {Integer.MIN_VALUE, 0}, {Integer.MAX_VALUE, 0}, {Integer.MAX_VALUE - 20000, 0}};
        for (int[] t : ticks) {
            GoalLifts lifts = new GoalLifts();
            CHECK.due("pass(" + t[0] + ")", lifts.pass(t[0]), t[1] > 0 ? 0 : Check.INVALID);
            CHECK.due("tick after pass(" + t[0] + ")", lifts.count(0), t[1]);
            CHECK.due("states after pass(" + t[0] + ")", lifts.count(13), t[1] > 0 ? 1 : 0);
        }
    }

    /** "ILLEGAL_STATE if the tick would be greater than 20000" */
    private static void passToTheLastTick() {
        int[][] ends = {{19800, 200, 0}, {19801, 200, Check.STATE}, {19801, 199, 0}, {19999, 1, 0},
            {19999, 2, Check.STATE}, {19999, 200, Check.STATE}, {19900, 100, 0}, {19900, 101, Check.STATE}};
        for (int[] e : ends) {
            GoalLifts lifts = Houses.passTo(new GoalLifts(), e[0]);
            String call = "pass(" + e[1] + ") at the tick " + e[0];
            CHECK.due(call, lifts.pass(e[1]), e[2]);
            CHECK.due("tick after " + call, lifts.count(0), e[2] == 0 ? 20000 : e[0]);
        }
    }

    private static void passFromTheLastTick() {
        GoalLifts lifts = Houses.passTo(Houses.with(0, 15, 1), 20000);
        lifts.call(0, 1);
        CHECK.due("pass(1)", lifts.pass(1), Check.STATE);
        CHECK.due("pass(200)", lifts.pass(200), Check.STATE);
        CHECK.due("the tick", lifts.count(0), 20000);
        CHECK.due("the caller waits still", lifts.caller(0, 2), 1);
    }

    /** INVALID_ARGUMENT is listed ahead of ILLEGAL_STATE. */
    private static void passWrongBeforeState() {
        GoalLifts lifts = Houses.passTo(new GoalLifts(), 20000);
        for (int ticks : new int[] {0, 201, -1, Integer.MAX_VALUE, Integer.MIN_VALUE}) {
            CHECK.due("pass(" + ticks + ") at the last tick", lifts.pass(ticks), Check.INVALID);
        }
    }

    /** "Returns the number of callers who are there then": of none, of some, of forty */
    private static void passCountsThoseThere() {
        CHECK.due("without callers", new GoalLifts().pass(200), 0);
        GoalLifts lifts = Houses.call(Houses.with(0, 15, 8), 40, 0, 1);
        CHECK.due("before the first stop on 1", lifts.pass(2), 0);
        for (int round = 1; round <= 5; round++) {
            // One to let out eight, one back, one to take, one up.
            CHECK.due("in the round " + round, lifts.pass(1), 8 * round);
            CHECK.due("those of earlier rounds too", lifts.pass(3), 8 * round);
        }
        CHECK.due("forty for good", lifts.pass(200), 40);
    }

    /** "ILLEGAL_STATE if it is empty" */
    private static void undoEmpty() {
        GoalLifts lifts = new GoalLifts();
        CHECK.due("undo() of a new object", lifts.undo(), Check.STATE);
        CHECK.due("undo() again", lifts.undo(), Check.STATE);
        lifts.addCar(0, 1, 1);
        CHECK.due("one state, none is left", lifts.undo(), 0);
        CHECK.due("undo() of none", lifts.undo(), Check.STATE);
        CHECK.due("cars", lifts.count(2), 0);
    }

    /** "Every successful call of a method that is called an action records the state before it" */
    private static void undoOfEachAction() {
        for (int action = 0; action < 7; action++) {
            GoalLifts before = Houses.undoAll(Houses.busy());
            GoalLifts lifts = Houses.undoAll(Houses.busy());
            before.addCar(0, 15, 1);
            lifts.addCar(0, 15, 1);
            switch (action) {
                case 0 -> lifts.addCar(3, 15, 1);
                case 1 -> lifts.setAwake(1, 1);
                case 2 -> lifts.hold(1, 0);
                case 3 -> lifts.fail(1);
                case 4 -> lifts.repair(2);
                case 5 -> lifts.call(0, 1);
                default -> lifts.pass(200);
            }
            CHECK.due("states after the action " + action, lifts.count(13), 2);
            CHECK.due("undo() of the action " + action, lifts.undo(), 1);
            CHECK.dueAll("seen after undo() of the action " + action, Check.seen(lifts), Check.seen(before));
            CHECK.due("undo() of the one before", lifts.undo(), 0);
        }
    }

    /** "a state is everything but the history": what ticks and failures have changed comes back. */
    private static void undoRestoresCallersAndCars() {
        GoalLifts lifts = Houses.with(0, 15, 1, 0, 15, 1);
        lifts.hold(1, 1);
        lifts.call(1, 3);
        lifts.pass(2);
        int[] rode = {1, 3, 2, 0, 0, 1, Check.NONE, 1};
        lifts.pass(50);
        lifts.undo();
        caller(lifts, "after undo() of the ticks", rode);
        lifts.pass(1);
        lifts.hold(1, 0);
        lifts.fail(0);
        lifts.pass(50);
        caller(lifts, "there by the other car", 2, 3, 3, 1, 0, 5, 7, 2);
        CHECK.due("floors travelled", lifts.car(0, 6) * 10 + lifts.car(1, 6), 23);
        CHECK.due("stops made", lifts.count(10), 3);
        lifts.undo();
        caller(lifts, "looking after the failure", 2, 3, 0, Check.NONE, 0, 1, Check.NONE, 1);
        CHECK.due("floors travelled", lifts.car(0, 6) * 10 + lifts.car(1, 6), 20);
        CHECK.due("stops made", lifts.count(10), 1);
        CHECK.due("failed", lifts.car(0, 1), 2);
        lifts.undo();
        caller(lifts, "riding before the failure", rode);
        CHECK.due("ready", lifts.car(0, 1), 0);
        lifts.undo();
        CHECK.due("held", lifts.car(1, 1), 1);
        lifts.undo();
        CHECK.due("floors travelled", lifts.count(9), 1);
        lifts.undo();
        caller(lifts, "before the ticks", 1, 3, 1, 0, 0, Check.NONE, Check.NONE, 1);
        CHECK.due("tick", lifts.count(0), 0);
        CHECK.due("stops made", lifts.count(10), 0);
    }

    private static void caller(GoalLifts lifts, String when, int... due) {
        for (int what = 0; what <= 7; what++) {
            CHECK.due("caller(0, " + what + ") " + when, lifts.caller(0, what), due[what]);
        }
    }

    /** Five states back to the new object. */
    private static void undoToTheFirstState() {
        GoalLifts lifts = new GoalLifts();
        lifts.addCar(0, 15, 1);
        lifts.setAwake(0, 2);
        lifts.call(0, 9);
        lifts.pass(5);
        lifts.fail(0);
        for (int left = 4; left >= 0; left--) {
            CHECK.due("undo()", lifts.undo(), left);
        }
        CHECK.dueAll("seen", Check.seen(lifts), Check.seen(new GoalLifts()));
        CHECK.due("the hour's number", lifts.setAwake(0, 5), 5);
    }

    /** "when a sixth one is recorded, the oldest one is dropped" */
    private static void undoDropsTheOldest() {
        GoalLifts lifts = new GoalLifts();
        for (int ticks = 1; ticks <= 6; ticks++) {
            lifts.pass(ticks);
        }
        int[] before = {15, 10, 6, 3, 1};
        for (int i = 0; i < 5; i++) {
            CHECK.due("undo()", lifts.undo(), 4 - i);
            CHECK.due("tick", lifts.count(0), before[i]);
        }
        CHECK.due("the state at the tick 0 is dropped", lifts.undo(), Check.STATE);
        CHECK.due("tick", lifts.count(0), 1);
    }

    /** "Removes the latest state from the history": what follows is recorded in its place. */
    private static void undoAfterUndo() {
        GoalLifts lifts = new GoalLifts();
        for (int round = 0; round < 20; round++) {
            lifts.call(0, 1);
            CHECK.due("undo()", lifts.undo(), 0);
            CHECK.due("callers", lifts.count(3), 0);
        }
        for (int call = 0; call < 5; call++) {
            lifts.call(0, 1);
        }
        for (int round = 0; round < 20; round++) {
            CHECK.due("undo()", lifts.undo(), 4);
            CHECK.due("callers", lifts.count(3), 4);
            lifts.call(2, 3);
            CHECK.due("states", lifts.count(13), 5);
        }
        for (int left = 4; left >= 0; left--) {
            CHECK.due("undo() to the end", lifts.undo(), left);
            CHECK.due("callers", lifts.count(3), left);
        }
    }

    /** A call that is refused is not recorded. */
    private static void undoOfRefusedCalls() {
        GoalLifts lifts = Houses.with(0, 15, 1);
        lifts.addCar(0, 0, 1);
        lifts.setAwake(24, 1);
        lifts.hold(0, 0);
        lifts.fail(1);
        lifts.repair(0);
        lifts.call(0, 0);
        lifts.pass(0);
        CHECK.due("states", lifts.count(13), 1);
        CHECK.due("undo()", lifts.undo(), 0);
        lifts.undo();
        CHECK.due("undo() without states is not recorded", lifts.count(13), 0);
    }

    /** From the tick 20000 time can go by again after undo(). */
    private static void undoAtTheLastTick() {
        GoalLifts lifts = Houses.passTo(new GoalLifts(), 20000);
        CHECK.due("pass(1)", lifts.pass(1), Check.STATE);
        CHECK.due("undo()", lifts.undo(), 4);
        CHECK.due("tick", lifts.count(0), 19800);
        CHECK.due("pass(200)", lifts.pass(200), 0);
        CHECK.due("tick", lifts.count(0), 20000);
    }
}
