import java.util.function.Supplier;

/** Promises 2 to 6: addCar, setAwake, hold, fail, repair. */
public final class CarsAndModesTest {
    private static final Check CHECK = new Check();

    public static void main(String[] args) {
        promise2AddCar();
        promise2AddCarRefuses();
        promise3SetAwake();
        promise3HoursGoByTicks();
        promise3SleepingCarsGoOn();
        promise3SetAwakeRefuses();
        promise4Hold();
        promise4HoldRefuses();
        promise5Fail();
        promise5FailAtTheGoal();
        promise5FailOfAHeldCar();
        promise5FailRefuses();
        promise6Repair();
        promise6RepairRefuses();
        CHECK.end("CarsAndModesTest");
    }

    private static void promise2AddCar() {
        GoalLifts lifts = new GoalLifts();
        CHECK.due("addCar(0, 1, 1)", lifts.addCar(0, 1, 1), 0);
        CHECK.due("addCar(14, 15, 8)", lifts.addCar(14, 15, 8), 1);
        CHECK.due("addCar(0, 15, 3)", lifts.addCar(0, 15, 3), 2);
        CHECK.due("number of cars", lifts.count(2), 3);
        CHECK.due("states in the history", lifts.count(13), 3);
        int[] fresh = {14, 0, 0, 0, 0, Check.NONE, 0, 1};
        for (int what = 0; what < fresh.length; what++) {
            CHECK.due("car(1, " + what + ") of a new car", lifts.car(1, what), fresh[what]);
        }
        CHECK.due("both ends are in the zone", lifts.cost(1, 15, 14), 1 + 2 * 2);
        CHECK.due("floor below the zone", lifts.cost(1, 13, 14), Check.NONE);
        CHECK.due("goal below the zone", lifts.cost(1, 14, 13), Check.NONE);
        CHECK.due("floor above the zone", lifts.cost(0, 2, 0), Check.NONE);
        CHECK.due("goal above the zone", lifts.cost(0, 0, 2), Check.NONE);
        CHECK.due("addCar(3, 4, 2)", lifts.addCar(3, 4, 2), 3);
        CHECK.due("addCar(5, 6, 2)", lifts.addCar(5, 6, 2), 4);
        CHECK.due("a sixth car", lifts.addCar(7, 8, 2), Check.CAPACITY);
        CHECK.due("number of cars", lifts.count(2), 5);
    }

    private static void promise2AddCarRefuses() {
        int[][] wrong = {{-1, 5, 1}, {15, 15, 1}, {15, 16, 1}, {0, 16, 1}, {0, 0, 1}, {5, 4, 1}, {6, 6, 2},
            {0, 5, 0}, {0, 5, 9}, {0, 5, -1}, {Integer.MIN_VALUE, 5, 1}, {0, Integer.MAX_VALUE, 1},
            {0, 5, Integer.MAX_VALUE}, {0, 5, Integer.MIN_VALUE}, {Integer.MAX_VALUE, Integer.MIN_VALUE, 1}};
        for (int[] w : wrong) {
            String call = "addCar(" + w[0] + ", " + w[1] + ", " + w[2] + ")";
            CHECK.refused(call, CarsAndModesTest::twoCars, l -> l.addCar(w[0], w[1], w[2]), Check.INVALID);
            CHECK.refused(call + " of five", CarsAndModesTest::fiveCars, l -> l.addCar(w[0], w[1], w[2]),
                Check.INVALID);
        }
        CHECK.refused("addCar of five", CarsAndModesTest::fiveCars, l -> l.addCar(0, 1, 1), Check.CAPACITY);
    }

    private static void promise3SetAwake() {
        GoalLifts lifts = twoCars();
        CHECK.due("setAwake(0, 1)", lifts.setAwake(0, 1), 5);
        CHECK.due("setAwake(0, 1) again", lifts.setAwake(0, 1), 1);
        CHECK.due("an action that changes nothing is recorded", lifts.count(13), 4);
        CHECK.due("setAwake(23, 4)", lifts.setAwake(23, 4), 5);
        CHECK.due("car 0 awake", lifts.car(0, 7), 1);
        CHECK.due("car 1 awake", lifts.car(1, 7), 0);
        CHECK.due("cost of a car asleep", lifts.cost(1, 4, 5), Check.NONE);
        CHECK.due("would of floors of car 1 alone", lifts.would(10, 11), Check.NONE);
        CHECK.due("setAwake(0, 2)", lifts.setAwake(0, 2), 1);
        CHECK.due("car 1 awake", lifts.car(1, 7), 1);
        CHECK.due("would of floors of car 1 alone", lifts.would(10, 11), 1);
    }

    private static void promise3HoursGoByTicks() {
        GoalLifts lifts = twoCars();
        lifts.setAwake(1, 1);
        lifts.call(10, 11);
        lifts.pass(59);
        CHECK.due("hour at the tick 59", lifts.count(1), 0);
        CHECK.due("car 1 awake at the tick 59", lifts.car(1, 7), 1);
        lifts.pass(1);
        CHECK.due("hour at the tick 60", lifts.count(1), 1);
        CHECK.due("car 1 awake at the tick 60", lifts.car(1, 7), 0);
        lifts.call(12, 13);
        lifts.pass(60);
        CHECK.due("looking until the hour is over", lifts.caller(1, 2), 0);
        CHECK.due("hour at the tick 120", lifts.count(1), 2);
        lifts.pass(1);
        CHECK.due("given a car in the first tick of the next hour", lifts.caller(1, 3), 1);
        for (int ticks = 121; ticks < 1421; ticks += 100) {
            lifts.pass(100);
        }
        lifts.pass(18);
        CHECK.due("hour at the tick 1439", lifts.count(1), 23);
        lifts.pass(1);
        CHECK.due("tick", lifts.count(0), 1440);
        CHECK.due("hour at the tick 1440", lifts.count(1), 0);
        lifts.pass(60);
        CHECK.due("car 1 awake a day later", lifts.car(1, 7), 0);
    }

    private static void promise3SleepingCarsGoOn() {
        GoalLifts lifts = twoCars();
        lifts.call(10, 12);
        lifts.setAwake(0, 1);
        CHECK.due("a car asleep keeps the one who waits", lifts.car(1, 3), 1);
        // Car 1 is on 4: six ticks to 10, one to take, two to 12, one to let out.
        CHECK.due("a car asleep goes on", lifts.pass(10), 1);
        CHECK.due("brought by it", lifts.caller(0, 3), 1);
    }

    private static void promise3SetAwakeRefuses() {
        int[][] wrong = {{-1, 1}, {24, 1}, {0, 0}, {0, 6}, {23, -1}, {Integer.MAX_VALUE, 1},
            {Integer.MIN_VALUE, 1}, {0, Integer.MAX_VALUE}, {0, Integer.MIN_VALUE}};
        for (int[] w : wrong) {
            CHECK.refused("setAwake(" + w[0] + ", " + w[1] + ")", CarsAndModesTest::twoCars,
                l -> l.setAwake(w[0], w[1]), Check.INVALID);
        }
    }

    private static void promise4Hold() {
        GoalLifts lifts = new GoalLifts();
        lifts.addCar(0, 9, 2);
        lifts.call(0, 5);
        lifts.call(3, 6);
        lifts.pass(3);
        CHECK.due("hold(0, 1) with one who rides and one who waits", lifts.hold(0, 1), 2);
        CHECK.due("held", lifts.car(0, 1), 1);
        CHECK.due("number of cars held", lifts.count(11), 1);
        CHECK.due("a held car keeps its aim", lifts.car(0, 5), 5);
        CHECK.due("a held car cannot be given", lifts.cost(0, 1, 2), Check.NONE);
        CHECK.due("would without another car", lifts.would(1, 2), Check.NONE);
        lifts.call(1, 2);
        lifts.pass(20);
        CHECK.due("a held car stays", lifts.car(0, 0), 2);
        CHECK.due("it keeps who rides", lifts.car(0, 2), 1);
        CHECK.due("it keeps who waits", lifts.car(0, 3), 1);
        CHECK.due("who calls is looking", lifts.caller(2, 2), 0);
        CHECK.due("hold(0, 0)", lifts.hold(0, 0), 2);
        CHECK.due("ready", lifts.car(0, 1), 0);
        CHECK.due("number of cars held", lifts.count(11), 0);
        lifts.pass(1);
        CHECK.due("it goes on", lifts.car(0, 0), 3);
        CHECK.due("given in the next tick", lifts.caller(2, 3), 0);
        CHECK.due("all three are with it", lifts.hold(0, 1), 3);
    }

    private static void promise4HoldRefuses() {
        int[][] wrong = {{-1, 1}, {2, 1}, {0, -1}, {0, 2}, {5, 0}, {Integer.MAX_VALUE, 1},
            {Integer.MIN_VALUE, 1}, {0, Integer.MAX_VALUE}, {0, Integer.MIN_VALUE}};
        for (int[] w : wrong) {
            String call = "hold(" + w[0] + ", " + w[1] + ")";
            CHECK.refused(call, CarsAndModesTest::twoCars, l -> l.hold(w[0], w[1]), Check.INVALID);
            CHECK.refused(call + " with car 0 failed", failed(0), l -> l.hold(w[0], w[1]), Check.INVALID);
        }
        CHECK.refused("hold(0, 0) of a ready car", CarsAndModesTest::twoCars, l -> l.hold(0, 0), Check.STATE);
        CHECK.refused("hold(0, 1) of a held car", held(0), l -> l.hold(0, 1), Check.STATE);
        CHECK.refused("hold(0, 1) of a failed car", failed(0), l -> l.hold(0, 1), Check.STATE);
        CHECK.refused("hold(0, 0) of a failed car", failed(0), l -> l.hold(0, 0), Check.STATE);
    }

    private static void promise5Fail() {
        GoalLifts lifts = new GoalLifts();
        lifts.addCar(0, 9, 2);
        lifts.call(0, 5);
        lifts.call(3, 6);
        lifts.call(12, 13);
        lifts.pass(3);
        CHECK.due("fail(0): who rode, who waited, and who was looking", lifts.fail(0), 3);
        CHECK.due("failed", lifts.car(0, 1), 2);
        CHECK.due("number of cars failed", lifts.count(12), 1);
        CHECK.due("without riders", lifts.car(0, 2), 0);
        CHECK.due("without waiters", lifts.car(0, 3), 0);
        CHECK.due("without aim", lifts.car(0, 5), Check.NONE);
        CHECK.due("it stays where it was", lifts.car(0, 0), 2);
        CHECK.due("who rode is looking", lifts.caller(0, 2), 0);
        CHECK.due("who rode has the floor of the car", lifts.caller(0, 0), 2);
        CHECK.due("who rode has no car", lifts.caller(0, 3), Check.NONE);
        CHECK.due("who rode keeps the tick of the ride", lifts.caller(0, 5), 0);
        CHECK.due("who waited is looking", lifts.caller(1, 2), 0);
        CHECK.due("who waited keeps the floor", lifts.caller(1, 0), 3);
        CHECK.due("who waited has no car", lifts.caller(1, 3), Check.NONE);
        CHECK.due("a failed car cannot be given", lifts.cost(0, 1, 2), Check.NONE);
        lifts.addCar(0, 15, 8);
        CHECK.due("none is given before the next tick", lifts.count(4), 3);
        lifts.pass(1);
        CHECK.due("who rode is given another car", lifts.caller(0, 3), 1);
        CHECK.due("who waited is given another car", lifts.caller(1, 3), 1);
        CHECK.due("who rode was given a car twice", lifts.caller(0, 7), 2);
        CHECK.due("a failed car does nothing", lifts.car(0, 0), 2);
        lifts.pass(1);
        CHECK.due("the other car travels", lifts.car(1, 0), 2);
        lifts.pass(1);
        CHECK.due("it takes the caller where the first car failed", lifts.caller(0, 2), 2);
        CHECK.due("the tick of the ride is the last one's", lifts.caller(0, 5), 5);
    }

    private static void promise5FailAtTheGoal() {
        GoalLifts lifts = new GoalLifts();
        lifts.addCar(0, 9, 3);
        lifts.call(0, 3);
        lifts.call(0, 5);
        lifts.pass(4);
        CHECK.due("on the goal of one, who is not let out yet", lifts.car(0, 0), 3);
        CHECK.due("fail(0)", lifts.fail(0), 1);
        CHECK.due("who has this goal is there", lifts.caller(0, 2), 3);
        CHECK.due("there in the tick that is now", lifts.caller(0, 6), 4);
        CHECK.due("brought by the car", lifts.caller(0, 3), 0);
        CHECK.due("who rode gets its floor", lifts.caller(0, 0), 3);
        CHECK.due("the ride's tick stays", lifts.caller(0, 5), 0);
        CHECK.due("given a car once", lifts.caller(0, 7), 1);
        CHECK.due("no stop is made", lifts.count(10), 1);
        CHECK.due("the other one is looking", lifts.caller(1, 2), 0);
        CHECK.due("the other one gets its floor", lifts.caller(1, 0), 3);
        CHECK.due("there for good", lifts.pass(5), 1);
    }

    private static void promise5FailOfAHeldCar() {
        GoalLifts lifts = held(0).get();
        CHECK.due("fail(0)", lifts.fail(0), 0);
        CHECK.due("failed", lifts.car(0, 1), 2);
        CHECK.due("number of cars held", lifts.count(11), 0);
        lifts.repair(0);
        CHECK.due("ready, not held", lifts.car(0, 1), 0);
    }

    private static void promise5FailRefuses() {
        for (int car : new int[] {-1, 2, 5, Integer.MAX_VALUE, Integer.MIN_VALUE}) {
            CHECK.refused("fail(" + car + ")", CarsAndModesTest::twoCars, l -> l.fail(car), Check.INVALID);
        }
        CHECK.refused("fail(1) of a failed car", failed(1), l -> l.fail(1), Check.STATE);
    }

    private static void promise6Repair() {
        GoalLifts lifts = new GoalLifts();
        lifts.addCar(2, 9, 1);
        lifts.call(5, 6);
        lifts.pass(2);
        lifts.fail(0);
        lifts.pass(5);
        CHECK.due("repair(0)", lifts.repair(0), 4);
        CHECK.due("ready", lifts.car(0, 1), 0);
        CHECK.due("number of cars failed", lifts.count(12), 0);
        CHECK.due("none is given at once", lifts.caller(0, 2), 0);
        lifts.pass(1);
        CHECK.due("given in the next tick", lifts.caller(0, 3), 0);
        CHECK.due("it goes on from there", lifts.car(0, 0), 5);
    }

    private static void promise6RepairRefuses() {
        for (int car : new int[] {-1, 2, 5, Integer.MAX_VALUE, Integer.MIN_VALUE}) {
            CHECK.refused("repair(" + car + ")", failed(0), l -> l.repair(car), Check.INVALID);
        }
        CHECK.refused("repair(1) of a ready car", failed(0), l -> l.repair(1), Check.STATE);
        CHECK.refused("repair(0) of a held car", held(0), l -> l.repair(0), Check.STATE);
    }

    private static GoalLifts twoCars() {
        GoalLifts lifts = new GoalLifts();
        lifts.addCar(0, 9, 2);
        lifts.addCar(4, 15, 1);
        return lifts;
    }

    private static GoalLifts fiveCars() {
        GoalLifts lifts = twoCars();
        lifts.addCar(0, 1, 1);
        lifts.addCar(0, 1, 1);
        lifts.addCar(0, 1, 1);
        return lifts;
    }

    private static Supplier<GoalLifts> held(int car) {
        return () -> {
            GoalLifts lifts = twoCars();
            lifts.hold(car, 1);
            return lifts;
        };
    }

    private static Supplier<GoalLifts> failed(int car) {
        return () -> {
            GoalLifts lifts = twoCars();
            lifts.fail(car);
            return lifts;
        };
    }
}
