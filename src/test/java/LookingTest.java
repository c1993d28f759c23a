/** Promises 10 to 13: count, car, caller, group. */
public final class LookingTest {
    private static final Check CHECK = new Check();

    public static void main(String[] args) {
        promise10Count();
        promise10CountRefuses();
        promise11Car();
        promise11CarRefuses();
        promise12Caller();
        promise12CallerRefuses();
        promise13Group();
        promise13GroupsChange();
        promise13GroupRefuses();
        CHECK.changesNothing("looking", LookingTest::busy, Check::seen);
        CHECK.end("LookingTest");
    }

    /**
     * At the tick 65: callers 0 and 1 there, 2 rides in car 0 and is on floor 2, 3 and 4 wait for it,
     * 5 and 6 are looking, car 1 is held, car 2 has failed.
     */
    private static GoalLifts busy() {
        GoalLifts lifts = new GoalLifts();
        lifts.addCar(0, 9, 1);
        lifts.addCar(4, 15, 1);
        lifts.addCar(10, 15, 1);
        lifts.call(0, 5);
        lifts.call(5, 0);
        lifts.pass(62);
        lifts.hold(1, 1);
        lifts.fail(2);
        lifts.call(0, 8);
        lifts.call(3, 1);
        lifts.call(3, 1);
        lifts.call(12, 11);
        lifts.call(12, 4);
        lifts.pass(3);
        return lifts;
    }

    private static void promise10Count() {
        GoalLifts lifts = new GoalLifts();
        lifts.addCar(0, 9, 1);
        lifts.addCar(4, 15, 1);
        lifts.addCar(10, 15, 1);
        lifts.call(0, 5);
        lifts.addCar(0, 9, 1);
        lifts.undo();
        lifts.call(5, 4);
        CHECK.due("caller 1 has the nearer car", lifts.caller(1, 3), 1);
        lifts.pass(62);
        // Car 0 went from 0 to 5; car 1 from 4 to 5 and back.
        CHECK.due("floors travelled by car 0", lifts.car(0, 6), 5);
        CHECK.due("floors travelled by car 1", lifts.car(1, 6), 2);
        lifts.hold(1, 1);
        lifts.fail(2);
        lifts.call(5, 8);
        lifts.call(6, 1);
        lifts.call(6, 1);
        lifts.call(12, 11);
        lifts.call(12, 4);
        lifts.pass(3);
        // Car 0, with one place, took caller 2 on 5 and travelled to 7, past those who wait on 6.
        int[] due = {65, 1, 3, 7, 2, 2, 1, 2, 3, 5 + 2 + 2, 2 + 2 + 1, 1, 1, 5};
        for (int what = 0; what < due.length; what++) {
            CHECK.due("count(" + what + ")", lifts.count(what), due[what]);
        }
    }

    private static void promise10CountRefuses() {
        for (int what : new int[] {-1, 14, 100, Integer.MAX_VALUE, Integer.MIN_VALUE}) {
            CHECK.due("count(" + what + ")", busy().count(what), Check.INVALID);
        }
    }

    private static void promise11Car() {
        GoalLifts lifts = new GoalLifts();
        lifts.addCar(2, 12, 2);
        lifts.addCar(0, 15, 8);
        lifts.call(4, 9);
        lifts.call(4, 9);
        lifts.call(3, 4);
        // Car 0 costs 2 + 4, then 2 + 4 + 1 against 4 + 4, then 1 + 6 + 2 against 3 + 4.
        lifts.hold(1, 1);
        lifts.call(9, 3);
        int[] first = {2, 0, 0, 3, 3, 4, 0, 1};
        int[] second = {0, 1, 0, 1, 2, 3, 0, 1};
        for (int what = 0; what <= 7; what++) {
            CHECK.due("car(0, " + what + ") at 0", lifts.car(0, what), first[what]);
            CHECK.due("car(1, " + what + ") at 0", lifts.car(1, what), second[what]);
        }
        lifts.pass(4);
        // Ticks 0 and 1 to 4, tick 2 takes two, tick 3 to 5; who waits on 9 does not change the aim.
        lifts.setAwake(0, 1);
        lifts.fail(1);
        int[] riding = {5, 0, 2, 1, 2, 9, 3, 1};
        int[] failed = {0, 2, 0, 0, 0, Check.NONE, 0, 0};
        for (int what = 0; what <= 7; what++) {
            CHECK.due("car(0, " + what + ") at 4", lifts.car(0, what), riding[what]);
            CHECK.due("car(1, " + what + ") at 4", lifts.car(1, what), failed[what]);
        }
        lifts.hold(0, 1);
        CHECK.due("a held car has an aim", lifts.car(0, 5), 9);
        CHECK.due("a held car has stops", lifts.car(0, 4), 2);
        lifts.hold(0, 0);
        lifts.pass(4);
        CHECK.due("on the goal before it stops, the aim is this floor", lifts.car(0, 5), 9);
    }

    private static void promise11CarRefuses() {
        int[][] wrong = {{-1, 0}, {3, 0}, {5, 0}, {0, -1}, {0, 8}, {3, 8}, {Integer.MAX_VALUE, 0},
            {Integer.MIN_VALUE, 0}, {0, Integer.MAX_VALUE}, {0, Integer.MIN_VALUE}};
        for (int[] w : wrong) {
            CHECK.due("car(" + w[0] + ", " + w[1] + ")", busy().car(w[0], w[1]), Check.INVALID);
        }
    }

    private static void promise12Caller() {
        GoalLifts lifts = new GoalLifts();
        lifts.pass(3);
        lifts.call(0, 4);
        lifts.addCar(0, 9, 1);
        lifts.pass(1);
        caller(lifts, "riding", 0, 4, 2, 0, 3, 3, Check.NONE, 1);
        lifts.pass(2);
        lifts.fail(0);
        caller(lifts, "looking again", 2, 4, 0, Check.NONE, 3, 3, Check.NONE, 1);
        lifts.addCar(0, 9, 1);
        lifts.pass(1);
        caller(lifts, "waiting for another", 2, 4, 1, 1, 3, 3, Check.NONE, 2);
        lifts.fail(1);
        lifts.repair(0);
        lifts.pass(1);
        caller(lifts, "riding again", 2, 4, 2, 0, 3, 7, Check.NONE, 3);
        lifts.pass(50);
        caller(lifts, "there", 2, 4, 3, 0, 3, 7, 10, 3);
        lifts.fail(0);
        lifts.pass(1);
        caller(lifts, "there for good", 2, 4, 3, 0, 3, 7, 10, 3);
    }

    private static void caller(GoalLifts lifts, String when, int... due) {
        for (int what = 0; what <= 7; what++) {
            CHECK.due("caller(0, " + what + ") " + when, lifts.caller(0, what), due[what]);
        }
    }

    private static void promise12CallerRefuses() {
        int[][] wrong = {{-1, 0}, {7, 0}, {40, 0}, {0, -1}, {0, 8}, {7, 8}, {Integer.MAX_VALUE, 0},
            {Integer.MIN_VALUE, 0}, {0, Integer.MAX_VALUE}, {0, Integer.MIN_VALUE}};
        for (int[] w : wrong) {
            CHECK.due("caller(" + w[0] + ", " + w[1] + ")", busy().caller(w[0], w[1]), Check.INVALID);
        }
    }

    private static void promise13Group() {
        GoalLifts lifts = new GoalLifts();
        lifts.addCar(0, 9, 1);
        int[][] calls = {{3, 5}, {12, 1}, {5, 3}, {3, 5}, {12, 1}, {3, 6}, {12, 1}, {4, 5}};
        for (int[] c : calls) {
            lifts.call(c[0], c[1]);
        }
        int[][] groups = {{3, 5, 2, 0}, {12, 1, 3, 1}, {5, 3, 1, 2}, {3, 6, 1, 5}, {4, 5, 1, 7}};
        groups(lifts, "of callers who wait or look", groups);
    }

    private static void promise13GroupsChange() {
        GoalLifts lifts = new GoalLifts();
        lifts.addCar(0, 9, 1);
        lifts.call(0, 5);
        lifts.call(0, 5);
        lifts.call(2, 5);
        groups(lifts, "at first", new int[][] {{0, 5, 2, 0}, {2, 5, 1, 2}});
        lifts.pass(3);
        groups(lifts, "without the one who rides", new int[][] {{0, 5, 1, 1}, {2, 5, 1, 2}});
        lifts.fail(0);
        groups(lifts, "with the floor of the car that failed", new int[][] {{2, 5, 2, 0}, {0, 5, 1, 1}});
        lifts.addCar(0, 9, 1);
        lifts.pass(1);
        groups(lifts, "with those who ride away", new int[][] {{2, 5, 2, 0}});
        lifts.pass(200);
        groups(lifts, "when all are there", new int[][] {});
    }

    private static void groups(GoalLifts lifts, String when, int[][] groups) {
        CHECK.due("count(8) " + when, lifts.count(8), groups.length);
        for (int index = 0; index < groups.length; index++) {
            for (int what = 0; what <= 3; what++) {
                CHECK.due("group(" + index + ", " + what + ") " + when, lifts.group(index, what),
                    groups[index][what]);
            }
        }
        CHECK.due("one group more " + when, lifts.group(groups.length, 0), Check.NONE);
        CHECK.due("a far group " + when, lifts.group(Integer.MAX_VALUE, 3), Check.NONE);
        CHECK.due("a far group's wrong property " + when, lifts.group(groups.length, 4), Check.INVALID);
    }

    private static void promise13GroupRefuses() {
        int[][] wrong = {{-1, 0}, {0, -1}, {0, 4}, {99, 4}, {99, -1}, {-1, 4}, {Integer.MIN_VALUE, 0},
            {0, Integer.MAX_VALUE}, {0, Integer.MIN_VALUE}};
        for (int[] w : wrong) {
            CHECK.due("group(" + w[0] + ", " + w[1] + ")", busy().group(w[0], w[1]), Check.INVALID);
        }
    }
}
