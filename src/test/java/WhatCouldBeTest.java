/** Promises 14 to 18: cost, would, thereIn, waits, worstCar. */
public final class WhatCouldBeTest {
    private static final Check CHECK = new Check();

    public static void main(String[] args) {
        promise14Cost();
        promise14CostRefuses();
        promise15Would();
        promise15WouldRefuses();
        promise16ThereIn();
        promise16ThereInAtMost400();
        promise16ThereInAfterTheLastTick();
        promise16ThereInRefuses();
        promise17Waits();
        promise17WaitsRefuses();
        promise18WorstCar();
        promise18WorstCarCountsThoseLate();
        promise18WorstCarAtTheGoal();
        promise18WorstCarWithoutCars();
        promise18WorstCarRefuses();
        theyChangeNothing();
        CHECK.end("WhatCouldBeTest");
    }

    private static void promise14Cost() {
        GoalLifts lifts = cars(2, 0, 9, 2);
        CHECK.due("distance and two stops", lifts.cost(0, 3, 7), 3 + 2 * 2);
        lifts.call(3, 7);
        CHECK.due("the same two stops and one other", lifts.cost(0, 3, 7), 3 + 2 * 2 + 1);
        CHECK.due("the same two stops backwards", lifts.cost(0, 7, 3), 7 + 2 * 2 + 1);
        CHECK.due("three stops", lifts.cost(0, 3, 8), 3 + 2 * 3 + 1);
        CHECK.due("four stops", lifts.cost(0, 9, 8), 9 + 2 * 4 + 1);
        CHECK.due("the other car", lifts.cost(1, 9, 8), 9 + 2 * 2);
        lifts.pass(4);
        CHECK.due("who rides stops at the goal alone", lifts.cost(0, 1, 7), 2 + 2 * 2 + 1);
        CHECK.due("three stops with who rides", lifts.cost(0, 3, 1), 0 + 2 * 3 + 1);
        CHECK.due("out of the zone", lifts.cost(0, 3, 10), Check.NONE);
        lifts.hold(0, 1);
        CHECK.due("held", lifts.cost(0, 3, 1), Check.NONE);
        lifts.fail(0);
        CHECK.due("failed", lifts.cost(0, 3, 1), Check.NONE);
        CHECK.due("ready", lifts.cost(1, 3, 1), 3 + 2 * 2);
        lifts.setAwake(0, 1);
        CHECK.due("asleep", lifts.cost(1, 3, 1), Check.NONE);
        lifts.repair(0);
        lifts.pass(40);
        CHECK.due("who is there is none of the others", lifts.cost(0, 7, 1), 0 + 2 * 2);
    }

    private static void promise14CostRefuses() {
        int[][] wrong = {{-1, 0, 1}, {2, 0, 1}, {5, 0, 1}, {0, -1, 1}, {0, 16, 1}, {0, 0, -1}, {0, 0, 16},
            {0, 3, 3}, {0, 12, 12}, {0, 12, 16}, {Integer.MAX_VALUE, 0, 1}, {Integer.MIN_VALUE, 0, 1},
            {0, Integer.MAX_VALUE, 1}, {0, 1, Integer.MIN_VALUE}};
        for (int[] w : wrong) {
            CHECK.due("cost(" + w[0] + ", " + w[1] + ", " + w[2] + ")",
                cars(2, 0, 9, 2).cost(w[0], w[1], w[2]), Check.INVALID);
        }
    }

    private static void promise15Would() {
        GoalLifts lifts = cars(2, 0, 9, 2);
        CHECK.due("of two as cheap the smaller number", lifts.would(3, 7), 0);
        lifts.call(3, 7);
        CHECK.due("the cheaper one", lifts.would(3, 7), 1);
        CHECK.due("out of the zones", lifts.would(3, 10), Check.NONE);
        lifts.addCar(3, 12, 1);
        CHECK.due("the nearer one", lifts.would(3, 7), 2);
        CHECK.due("the only one", lifts.would(3, 10), 2);
        lifts.setAwake(0, 2);
        CHECK.due("the cheapest of those awake", lifts.would(3, 7), 1);
        lifts.hold(1, 1);
        CHECK.due("the cheapest of those ready", lifts.would(3, 7), 0);
        lifts.fail(0);
        CHECK.due("none is ready and awake", lifts.would(3, 7), Check.NONE);
        CHECK.due("of no cars", new GoalLifts().would(0, 15), Check.NONE);
        CHECK.due("it calls nobody", lifts.count(3), 1);
    }

    private static void promise15WouldRefuses() {
        int[][] wrong = {{-1, 1}, {16, 1}, {0, -1}, {0, 16}, {3, 3}, {Integer.MAX_VALUE, 1},
            {Integer.MIN_VALUE, 1}, {0, Integer.MAX_VALUE}, {0, Integer.MIN_VALUE}};
        for (int[] w : wrong) {
            String call = "would(" + w[0] + ", " + w[1] + ")";
            CHECK.due(call, cars(2, 0, 9, 2).would(w[0], w[1]), Check.INVALID);
            CHECK.due(call + " without cars", new GoalLifts().would(w[0], w[1]), Check.INVALID);
        }
    }

    private static void promise16ThereIn() {
        GoalLifts lifts = cars(1, 0, 9, 1);
        lifts.call(2, 5);
        lifts.call(2, 4);
        lifts.call(12, 4);
        // Two to 2, one to take, three to 5, one to let out; three back, one, two to 4, one.
        CHECK.due("the first", lifts.thereIn(0), 7);
        CHECK.due("the second", lifts.thereIn(1), 14);
        CHECK.due("without a car", lifts.thereIn(2), Check.NONE);
        lifts.pass(3);
        CHECK.due("riding", lifts.thereIn(0), 4);
        lifts.pass(3);
        CHECK.due("on the goal, not let out yet", lifts.thereIn(0), 1);
        lifts.pass(1);
        CHECK.due("there", lifts.thereIn(0), 0);
        CHECK.due("the second", lifts.thereIn(1), 7);
        lifts.hold(0, 1);
        CHECK.due("the car is held", lifts.thereIn(1), Check.NONE);
        lifts.fail(0);
        CHECK.due("the car has failed", lifts.thereIn(1), Check.NONE);
        lifts.addCar(4, 15, 1);
        CHECK.due("a car that is given in the next tick", lifts.thereIn(2), 8 + 1 + 8 + 1);
    }

    private static void promise16ThereInAtMost400() {
        GoalLifts lifts = lateHouse();
        // From the tick 420 on: fifteen floors up, one to take, fifteen floors down, one to let out.
        CHECK.due("in 401 ticks", lifts.thereIn(0), Check.NONE);
        lifts.pass(1);
        CHECK.due("in 400 ticks", lifts.thereIn(0), 400);
        lifts.pass(200);
        CHECK.due("in 200 ticks", lifts.thereIn(0), 200);
        CHECK.due("not there a tick before", lifts.pass(199), 0);
        CHECK.due("in 1 tick", lifts.thereIn(0), 1);
        CHECK.due("there then", lifts.pass(1), 1);
        CHECK.due("there", lifts.thereIn(0), 0);
    }

    /** At the tick 51: one caller, who can be given a car (1) from the tick 420 on. */
    private static GoalLifts lateHouse() {
        GoalLifts lifts = cars(1, 0, 1, 1);
        lifts.addCar(0, 15, 1);
        for (int hour = 0; hour < 7; hour++) {
            lifts.setAwake(hour, 1);
        }
        lifts.pass(51);
        lifts.call(15, 0);
        return lifts;
    }

    private static void promise16ThereInAfterTheLastTick() {
        GoalLifts lifts = cars(2, 0, 15, 1);
        for (int i = 0; i < 100; i++) {
            lifts.pass(200);
        }
        lifts.call(15, 0);
        CHECK.due("no tick more", lifts.pass(1), Check.STATE);
        CHECK.due("the forecast has no last tick", lifts.thereIn(0), 32);
        CHECK.due("nor has that of a failure", lifts.worstCar(1), 32);
    }

    private static void promise16ThereInRefuses() {
        for (int caller : new int[] {-1, 1, 40, Integer.MAX_VALUE, Integer.MIN_VALUE}) {
            GoalLifts lifts = cars(1, 0, 9, 1);
            lifts.call(0, 1);
            CHECK.due("thereIn(" + caller + ")", lifts.thereIn(caller), Check.INVALID);
        }
    }

    private static void promise17Waits() {
        GoalLifts lifts = cars(1, 0, 9, 1);
        waits(lifts, "without callers", Check.NONE, Check.NONE, 0);
        lifts.pass(10);
        lifts.call(2, 5);
        waits(lifts, "at the call", 0, 0, 0);
        lifts.call(12, 5);
        lifts.pass(1);
        waits(lifts, "of two that are as great", 1, 0, 2);
        lifts.pass(1);
        lifts.call(5, 2);
        waits(lifts, "of three", 2, 0, 4);
        lifts.pass(1);
        // Caller 0 began to ride in the tick 12, called in the tick 10.
        waits(lifts, "with one who rides", 3, 1, 2 + 3 + 1);
        lifts.pass(4);
        // Caller 0 is there and caller 2 rides since the tick 16, called in the tick 12.
        CHECK.due("caller 2 rides since", lifts.caller(2, 5), 16);
        waits(lifts, "with one who is there", 7, 1, 2 + 7 + 4);
        lifts.pass(1);
        lifts.fail(0);
        waits(lifts, "with one who rode", 8, 1, 2 + 8 + 6);
        lifts.repair(0);
        lifts.pass(1);
        waits(lifts, "with one who rides again", 9, 1, 2 + 9 + 6);
    }

    private static void waits(GoalLifts lifts, String when, int greatest, int who, int sum) {
        CHECK.due("waits(0) " + when, lifts.waits(0), greatest);
        CHECK.due("waits(1) " + when, lifts.waits(1), who);
        CHECK.due("waits(2) " + when, lifts.waits(2), sum);
    }

    private static void promise17WaitsRefuses() {
        for (int what : new int[] {-1, 3, Integer.MAX_VALUE, Integer.MIN_VALUE}) {
            CHECK.due("waits(" + what + ") without callers", new GoalLifts().waits(what), Check.INVALID);
            CHECK.due("waits(" + what + ")", lateHouse().waits(what), Check.INVALID);
        }
    }

    private static void promise18WorstCar() {
        GoalLifts lifts = cars(2, 0, 15, 8);
        worst(lifts, "without callers", 0, 0);
        lifts.call(0, 10);
        lifts.pass(3);
        CHECK.due("riding on 2", lifts.car(0, 0), 2);
        // If car 0 fails, car 1: two up, one to take, eight up, one to let out; if car 1 fails: nine.
        worst(lifts, "with one who rides in car 0", 0, 12);
        lifts.hold(0, 1);
        worst(lifts, "with car 0 held, car 1's failure", 1, 401);
        lifts.fail(0);
        worst(lifts, "with car 0 failed", 1, 401);
        lifts.repair(0);
        // Car 0 is on 2 and takes at once; car 1 is to come from 0.
        worst(lifts, "with car 0 repaired", 0, 12);
        lifts.pass(1);
        lifts.pass(200);
        worst(lifts, "when all are there", 0, 0);
        lifts.fail(0);
        worst(lifts, "when all are there and car 0 has failed", 1, 0);
    }

    private static void promise18WorstCarCountsThoseLate() {
        GoalLifts lifts = lateHouse();
        worst(lifts, "in 401 ticks and never are the same", 0, 401);
        lifts.pass(1);
        worst(lifts, "never is worse than in 400 ticks", 1, 401);
        lifts.addCar(0, 15, 1);
        worst(lifts, "in 400 ticks", 0, 400);
        lifts.call(0, 1);
        worst(lifts, "one who would be there sooner does not count", 0, 400);
    }

    private static void promise18WorstCarAtTheGoal() {
        GoalLifts lifts = cars(1, 0, 9, 1);
        lifts.call(0, 3);
        lifts.pass(4);
        worst(lifts, "on the goal of who rides", 0, 0);
        lifts.addCar(0, 9, 1);
        worst(lifts, "on the goal of who rides, with another car", 1, 1);
    }

    private static void promise18WorstCarWithoutCars() {
        GoalLifts lifts = new GoalLifts();
        worst(lifts, "without cars", Check.NONE, Check.NONE);
        lifts.call(0, 1);
        worst(lifts, "with a caller without cars", Check.NONE, Check.NONE);
        lifts.addCar(0, 9, 1);
        lifts.fail(0);
        worst(lifts, "when all cars have failed", Check.NONE, Check.NONE);
        CHECK.due("worstCar(2)", lifts.worstCar(2), Check.INVALID);
    }

    private static void worst(GoalLifts lifts, String when, int car, int ticks) {
        CHECK.due("worstCar(0) " + when, lifts.worstCar(0), car);
        CHECK.due("worstCar(1) " + when, lifts.worstCar(1), ticks);
    }

    private static void promise18WorstCarRefuses() {
        for (int what : new int[] {-1, 2, Integer.MAX_VALUE, Integer.MIN_VALUE}) {
            CHECK.due("worstCar(" + what + ") without cars", new GoalLifts().worstCar(what), Check.INVALID);
            CHECK.due("worstCar(" + what + ")", lateHouse().worstCar(what), Check.INVALID);
        }
    }

    private static void theyChangeNothing() {
        CHECK.changesNothing("what could be", WhatCouldBeTest::lateHouse, lifts -> {
            lifts.cost(0, 0, 1);
            lifts.cost(1, 0, 15);
            lifts.would(0, 1);
            lifts.thereIn(0);
            lifts.waits(0);
            lifts.worstCar(0);
            lifts.worstCar(1);
        });
    }

    private static GoalLifts cars(int number, int lowest, int highest, int places) {
        GoalLifts lifts = new GoalLifts();
        for (int car = 0; car < number; car++) {
            lifts.addCar(lowest, highest, places);
        }
        return lifts;
    }
}
