/** The edges of promises 14 to 18: cost, would, thereIn, waits, worstCar. */
public final class EdgesOfForecastsTest {
    private static final Check CHECK = new Check();

    public static void main(String[] args) {
        costLeastAndGreatest();
        costSameFloors();
        costAtTheEndsOfTheZone();
        costCannotBeGiven();
        costWrongBeforeNone();
        wouldLeastAndGreatest();
        wouldNone();
        wouldAsCheap();
        thereInLeastAndGreatest();
        thereInZero();
        thereIn400();
        thereInNever();
        thereInBehindHour23();
        thereInBehindTheLastTick();
        waitsLeastAndGreatest();
        waitsWithoutCallers();
        waitsOfZero();
        waitsAsGreat();
        waitsGreatest();
        waitsOfARideThatFailed();
        worstCarLeastAndGreatest();
        worstCarOfNone();
        worstCarAllAreThere();
        worstCarAsBad();
        worstCarHeldCounts();
        worstCar400();
        worstCarBehindTheLastTick();
        theyChangeNothing();
        CHECK.end("EdgesOfForecastsTest");
    }

    /** "car: a car", "floor: 0 to 15", "goal: 0 to 15" */
    private static void costLeastAndGreatest() {
        int[][] costs = {{0, 0, 15, 4}, {0, 15, 0, 19}, {4, 0, 1, 4}, {4, 15, 14, 19}, {-1, 0, 1, Check.INVALID},
            {5, 0, 1, Check.INVALID}, {0, -1, 1, Check.INVALID}, {0, 16, 1, Check.INVALID},
            {0, 1, -1, Check.INVALID}, {0, 1, 16, Check.INVALID}, {Integer.MIN_VALUE, 0, 1, Check.INVALID},
            {Integer.MAX_VALUE, 0, 1, Check.INVALID}, {0, Integer.MIN_VALUE, 1, Check.INVALID},
            {0, Integer.MAX_VALUE, 1, Check.INVALID}, {0, 1, Integer.MIN_VALUE, Check.INVALID},
            {0, 1, Integer.MAX_VALUE, Check.INVALID}};
        GoalLifts lifts = Houses.withFive(1);
        for (int[] c : costs) {
            CHECK.due("cost(" + c[0] + ", " + c[1] + ", " + c[2] + ")", lifts.cost(c[0], c[1], c[2]), c[3]);
        }
        CHECK.due("cost(1, 0, 1) of one car", Houses.with(0, 15, 1).cost(1, 0, 1), Check.INVALID);
        CHECK.due("cost(0, 0, 1) without cars", new GoalLifts().cost(0, 0, 1), Check.INVALID);
    }

    /** "INVALID_ARGUMENT if [..] both floors are the same" */
    private static void costSameFloors() {
        GoalLifts lifts = Houses.with(3, 9, 1);
        for (int floor = 0; floor < 16; floor++) {
            CHECK.due("cost(0, " + floor + ", " + floor + ")", lifts.cost(0, floor, floor), Check.INVALID);
        }
    }

    /** "a zone (a lowest and a highest floor, both in it)" */
    private static void costAtTheEndsOfTheZone() {
        GoalLifts lifts = Houses.with(3, 9, 1);
        for (int floor = 0; floor < 16; floor++) {
            if (floor == 5) {
                continue;
            }
            boolean in = floor >= 3 && floor <= 9;
            CHECK.due("from " + floor + " to 5", lifts.cost(0, floor, 5), in ? floor - 3 + 4 : Check.NONE);
            CHECK.due("from 5 to " + floor, lifts.cost(0, 5, floor), in ? 2 + 4 : Check.NONE);
        }
    }

    /** "NONE if the car cannot be given" */
    private static void costCannotBeGiven() {
        GoalLifts lifts = Houses.with(0, 15, 1, 0, 15, 1);
        lifts.hold(0, 1);
        CHECK.due("held", lifts.cost(0, 0, 1), Check.NONE);
        lifts.hold(0, 0);
        CHECK.due("ready", lifts.cost(0, 0, 1), 4);
        lifts.fail(0);
        CHECK.due("failed", lifts.cost(0, 0, 1), Check.NONE);
        lifts.repair(0);
        CHECK.due("repaired", lifts.cost(0, 0, 1), 4);
        lifts.setAwake(1, 1);
        lifts.pass(59);
        CHECK.due("awake at the tick 59", lifts.cost(1, 0, 1), 4);
        lifts.pass(1);
        CHECK.due("asleep at the tick 60", lifts.cost(1, 0, 1), Check.NONE);
        CHECK.due("the other one", lifts.cost(0, 0, 1), 4);
    }

    /** "NONE [..] is returned only if no error condition applies" */
    private static void costWrongBeforeNone() {
        GoalLifts lifts = Houses.with(3, 9, 1);
        lifts.fail(0);
        CHECK.due("cost(0, 3, 3) of a failed car", lifts.cost(0, 3, 3), Check.INVALID);
        CHECK.due("cost(0, 16, 3) of a failed car", lifts.cost(0, 16, 3), Check.INVALID);
        CHECK.due("cost(0, 3, -1) of a failed car", lifts.cost(0, 3, -1), Check.INVALID);
        CHECK.due("cost(1, 0, 15) of no car", lifts.cost(1, 0, 15), Check.INVALID);
        CHECK.due("cost(0, 0, 15) of a failed car", lifts.cost(0, 0, 15), Check.NONE);
    }

    /** "floor: 0 to 15", "goal: 0 to 15, another floor" */
    private static void wouldLeastAndGreatest() {
        int[][] ways = {{0, 15, 0}, {15, 0, 0}, {0, 1, 0}, {15, 14, 0}, {-1, 0, Check.INVALID},
            {0, -1, Check.INVALID}, {16, 15, Check.INVALID}, {15, 16, Check.INVALID}, {0, 0, Check.INVALID},
            {15, 15, Check.INVALID}, {Integer.MIN_VALUE, 0, Check.INVALID}, {Integer.MAX_VALUE, 0, Check.INVALID},
            {0, Integer.MIN_VALUE, Check.INVALID}, {0, Integer.MAX_VALUE, Check.INVALID}};
        GoalLifts lifts = Houses.with(0, 15, 1);
        GoalLifts none = new GoalLifts();
        for (int[] w : ways) {
            String call = "would(" + w[0] + ", " + w[1] + ")";
            CHECK.due(call, lifts.would(w[0], w[1]), w[2]);
            CHECK.due(call + " without cars", none.would(w[0], w[1]), w[2] == 0 ? Check.NONE : w[2]);
        }
    }

    /** "NONE if there is none" */
    private static void wouldNone() {
        GoalLifts lifts = Houses.with(0, 7, 1, 8, 15, 1);
        CHECK.due("within the first zone", lifts.would(0, 7), 0);
        CHECK.due("within the second zone", lifts.would(15, 8), 1);
        CHECK.due("from one zone to the other", lifts.would(7, 8), Check.NONE);
        CHECK.due("and back", lifts.would(8, 7), Check.NONE);
        lifts.setAwake(0, 1);
        CHECK.due("within the zone of one asleep", lifts.would(15, 8), Check.NONE);
        lifts.hold(0, 1);
        CHECK.due("within the zone of one held", lifts.would(0, 7), Check.NONE);
        lifts.fail(0);
        CHECK.due("within the zone of one failed", lifts.would(0, 7), Check.NONE);
    }

    /** "of several the one with the smallest number" */
    private static void wouldAsCheap() {
        GoalLifts lifts = Houses.withFive(1);
        for (int car = 0; car < 5; car++) {
            CHECK.due("with " + car + " of them held", lifts.would(5, 6), car);
            lifts.hold(car, 1);
        }
        CHECK.due("with all held", lifts.would(5, 6), Check.NONE);
        GoalLifts near = Houses.with(0, 15, 1, 4, 15, 1, 6, 15, 1);
        CHECK.due("as far from two", near.would(5, 9) * 100 + near.cost(1, 5, 9) * 10 + near.cost(2, 9, 8) % 10, 157);
        CHECK.due("nearer to one with a greater number", near.would(6, 9), 2);
    }

    /** "INVALID_ARGUMENT if there is no such caller" */
    private static void thereInLeastAndGreatest() {
        GoalLifts lifts = Houses.call(Houses.with(0, 15, 8), 39, 0, 1);
        CHECK.due("thereIn(39) of 39", lifts.thereIn(39), Check.INVALID);
        lifts.call(0, 1);
        CHECK.due("thereIn(-1)", lifts.thereIn(-1), Check.INVALID);
        CHECK.due("thereIn(0)", lifts.thereIn(0), 3);
        CHECK.due("thereIn(7)", lifts.thereIn(7), 3);
        CHECK.due("thereIn(8), not in the first eight", lifts.thereIn(8), 7);
        CHECK.due("thereIn(39)", lifts.thereIn(39), 3 + 4 * 4);
        CHECK.due("thereIn(40)", lifts.thereIn(40), Check.INVALID);
        CHECK.due("thereIn(least)", lifts.thereIn(Integer.MIN_VALUE), Check.INVALID);
        CHECK.due("thereIn(greatest)", lifts.thereIn(Integer.MAX_VALUE), Check.INVALID);
        CHECK.due("thereIn(0) without callers", Houses.with(0, 15, 8).thereIn(0), Check.INVALID);
    }

    /** "0 if the caller is there" */
    private static void thereInZero() {
        GoalLifts lifts = Houses.with(0, 15, 1);
        lifts.call(0, 1);
        for (int left = 3; left >= 0; left--) {
            CHECK.due("thereIn(0)", lifts.thereIn(0), left);
            CHECK.due("there", lifts.count(7), left == 0 ? 1 : 0);
            lifts.pass(1);
        }
        lifts.fail(0);
        lifts.pass(200);
        CHECK.due("for good", lifts.thereIn(0), 0);
    }

    /** "NONE if it is more than 400" */
    private static void thereIn400() {
        // Each of the first eleven has the car for 32 ticks: fifteen up, one, fifteen down, one.
        int[][] goals = {{9, 0, 398}, {8, 1, 399}, {8, 0, 400}, {7, 2, 400}, {7, 1, Check.NONE}, {7, 0, Check.NONE}};
        for (int[] g : goals) {
            GoalLifts lifts = Houses.call(Houses.with(0, 15, 1), 11, 15, 0);
            lifts.call(15, g[0]);
            lifts.call(15, g[1]);
            CHECK.due("the eleventh", lifts.thereIn(10), 11 * 32);
            CHECK.due("the twelfth, to " + g[0], lifts.thereIn(11), 12 * 32 - g[0]);
            CHECK.due("the last, to " + g[0] + " and " + g[1], lifts.thereIn(12), g[2]);
        }
        GoalLifts late = lateHouse();
        CHECK.due("in 401 ticks", late.thereIn(0), Check.NONE);
        late.pass(1);
        CHECK.due("in 400 ticks", late.thereIn(0), 400);
        late.pass(200);
        late.pass(199);
        CHECK.due("not there after 399 of them", late.count(7), 0);
        CHECK.due("there after 400", late.pass(1), 1);
    }

    /** At the tick 51: one caller, who can be given a car (1) from the tick 420 on and needs 32 ticks. */
    private static GoalLifts lateHouse() {
        GoalLifts lifts = Houses.with(0, 1, 1, 0, 15, 1);
        for (int hour = 0; hour < 7; hour++) {
            lifts.setAwake(hour, 1);
        }
        lifts.pass(51);
        lifts.call(15, 0);
        return lifts;
    }

    private static void thereInNever() {
        GoalLifts lifts = Houses.with(0, 9, 1);
        lifts.call(0, 10);
        CHECK.due("out of the zone", lifts.thereIn(0), Check.NONE);
        lifts.call(0, 9);
        CHECK.due("within it", lifts.thereIn(1), 11);
        lifts.hold(0, 1);
        CHECK.due("the car is held", lifts.thereIn(1), Check.NONE);
        CHECK.due("without cars", Houses.call(new GoalLifts(), 1, 0, 9).thereIn(0), Check.NONE);
        GoalLifts high = Houses.with(6, 15, 1);
        high.call(5, 9);
        high.call(9, 5);
        high.call(9, 6);
        CHECK.due("from below the zone", high.thereIn(0), Check.NONE);
        CHECK.due("to below the zone", high.thereIn(1), Check.NONE);
        CHECK.due("to the lowest floor of the zone", high.thereIn(2), 8);
    }

    /** The hour in the forecast goes round behind the hour 23. */
    private static void thereInBehindHour23() {
        GoalLifts lifts = Houses.with(0, 1, 1, 0, 15, 1);
        lifts.setAwake(23, 1);
        lifts.setAwake(0, 1);
        Houses.passTo(lifts, 1430);
        lifts.call(0, 5);
        // Given in the tick 1500, one to take, five up, one to let out.
        CHECK.due("thereIn(0)", lifts.thereIn(0), 70 + 7);
        lifts.setAwake(0, 2);
        CHECK.due("thereIn(0) from the hour 0 on", lifts.thereIn(0), 10 + 7);
    }

    /** "(the tick is not bounded)" */
    private static void thereInBehindTheLastTick() {
        GoalLifts lifts = Houses.passTo(Houses.with(0, 1, 1, 0, 15, 1), 20000);
        lifts.setAwake(21, 1);
        lifts.setAwake(22, 1);
        lifts.call(15, 0);
        // The tick 20000 is the 20th one of the hour 21; the hour 23 begins 100 ticks later.
        CHECK.due("thereIn(0)", lifts.thereIn(0), 100 + 32);
        lifts.setAwake(23, 1);
        lifts.setAwake(0, 1);
        CHECK.due("thereIn(0) from the hour 1 on", lifts.thereIn(0), 100 + 120 + 32);
        CHECK.due("the tick stays", lifts.count(0), 20000);
    }

    /** "INVALID_ARGUMENT if what is out of range" */
    private static void waitsLeastAndGreatest() {
        GoalLifts lifts = Houses.call(new GoalLifts(), 2, 0, 1);
        lifts.pass(3);
        CHECK.due("waits(-1)", lifts.waits(-1), Check.INVALID);
        CHECK.due("waits(0)", lifts.waits(0), 3);
        CHECK.due("waits(1)", lifts.waits(1), 0);
        CHECK.due("waits(2)", lifts.waits(2), 6);
        CHECK.due("waits(3)", lifts.waits(3), Check.INVALID);
        CHECK.due("waits(least)", lifts.waits(Integer.MIN_VALUE), Check.INVALID);
        CHECK.due("waits(greatest)", lifts.waits(Integer.MAX_VALUE), Check.INVALID);
    }

    /** "NONE for 0 and 1 without callers" */
    private static void waitsWithoutCallers() {
        GoalLifts lifts = Houses.passTo(Houses.with(0, 15, 1), 300);
        CHECK.due("waits(0)", lifts.waits(0), Check.NONE);
        CHECK.due("waits(1)", lifts.waits(1), Check.NONE);
        CHECK.due("waits(2)", lifts.waits(2), 0);
        CHECK.due("waits(-1)", lifts.waits(-1), Check.INVALID);
        CHECK.due("waits(3)", lifts.waits(3), Check.INVALID);
    }

    /** A wait of 0 is a wait. */
    private static void waitsOfZero() {
        GoalLifts lifts = Houses.passTo(Houses.with(0, 15, 1), 100);
        lifts.call(0, 9);
        CHECK.due("waits(0) at the call", lifts.waits(0), 0);
        CHECK.due("waits(1) at the call", lifts.waits(1), 0);
        lifts.pass(1);
        CHECK.due("waits(0) of one who rides at once", lifts.waits(0), 0);
        CHECK.due("waits(1) of one who rides at once", lifts.waits(1), 0);
        lifts.pass(100);
        CHECK.due("waits(0) of one who is there", lifts.waits(0), 0);
        CHECK.due("waits(2) of one who is there", lifts.waits(2), 0);
    }

    /** "of several the one with the smallest number" */
    private static void waitsAsGreat() {
        GoalLifts lifts = Houses.with(0, 15, 8);
        lifts.call(0, 9);
        Houses.call(lifts, 38, 9, 0);
        lifts.call(9, 1);
        lifts.pass(5);
        CHECK.due("39 who wait as long", lifts.waits(1), 1);
        CHECK.due("how long", lifts.waits(0), 5);
        CHECK.due("all together", lifts.waits(2), 39 * 5);
    }

    /** Forty who are looking from the tick 0 to the tick 20000. */
    private static void waitsGreatest() {
        GoalLifts lifts = Houses.passTo(Houses.call(new GoalLifts(), 40, 0, 1), 20000);
        CHECK.due("waits(0)", lifts.waits(0), 20000);
        CHECK.due("waits(1)", lifts.waits(1), 0);
        CHECK.due("waits(2)", lifts.waits(2), 40 * 20000);
    }

    /** "from the tick of the call to the tick in which the riding began last; one who is looking or waiting, to [..] now" */
    private static void waitsOfARideThatFailed() {
        GoalLifts lifts = Houses.with(0, 15, 1);
        lifts.call(2, 5);
        lifts.pass(3);
        CHECK.due("who rides since the tick 2", lifts.waits(0), 2);
        lifts.pass(1);
        CHECK.due("who rides still", lifts.waits(0), 2);
        lifts.fail(0);
        CHECK.due("who is looking", lifts.waits(0), 4);
        lifts.pass(6);
        CHECK.due("who is looking still", lifts.waits(0), 10);
        lifts.repair(0);
        lifts.pass(1);
        CHECK.due("who rides since the tick 10", lifts.waits(0), 10);
        lifts.pass(2);
        CHECK.due("on the goal", lifts.car(0, 0), 5);
        lifts.fail(0);
        CHECK.due("who is there by the failure", lifts.waits(0) * 10 + lifts.count(7), 101);
    }

    /** "INVALID_ARGUMENT if what is out of range" */
    private static void worstCarLeastAndGreatest() {
        GoalLifts lifts = Houses.with(0, 15, 1);
        CHECK.due("worstCar(-1)", lifts.worstCar(-1), Check.INVALID);
        CHECK.due("worstCar(0)", lifts.worstCar(0), 0);
        CHECK.due("worstCar(1)", lifts.worstCar(1), 0);
        CHECK.due("worstCar(2)", lifts.worstCar(2), Check.INVALID);
        CHECK.due("worstCar(least)", lifts.worstCar(Integer.MIN_VALUE), Check.INVALID);
        CHECK.due("worstCar(greatest)", lifts.worstCar(Integer.MAX_VALUE), Check.INVALID);
    }

    /** "NONE if all cars have failed" */
    private static void worstCarOfNone() {
        GoalLifts lifts = Houses.withFive(1);
        lifts.call(0, 9);
        for (int car = 0; car < 5; car++) {
            CHECK.due("with " + car + " failed", lifts.worstCar(0), car);
            lifts.fail(car);
        }
        worst(lifts, "when all have failed", Check.NONE, Check.NONE);
        CHECK.due("worstCar(-1) when all have failed", lifts.worstCar(-1), Check.INVALID);
        CHECK.due("worstCar(2) when all have failed", lifts.worstCar(2), Check.INVALID);
        worst(Houses.call(new GoalLifts(), 1, 0, 9), "without cars", Check.NONE, Check.NONE);
        CHECK.due("worstCar(2) without cars", new GoalLifts().worstCar(2), Check.INVALID);
    }

    /** "(0 if all are there)" */
    private static void worstCarAllAreThere() {
        GoalLifts lifts = Houses.withFive(1);
        worst(lifts, "without callers", 0, 0);
        lifts.call(0, 1);
        lifts.pass(3);
        worst(lifts, "when all are there", 0, 0);
        lifts.fail(0);
        worst(lifts, "when all are there and car 0 has failed", 1, 0);
        GoalLifts goal = Houses.with(0, 15, 1);
        goal.call(0, 1);
        goal.pass(2);
        worst(goal, "when the last one would be there by the failure", 0, 0);
    }

    /** "of several the one with the smallest number" */
    private static void worstCarAsBad() {
        GoalLifts lifts = Houses.with(0, 15, 1, 0, 15, 1, 0, 15, 1);
        lifts.call(2, 0);
        // Whichever fails, another one is on the floor 0: two up, one, two down, one.
        worst(lifts, "with three on the same floor", 0, 6);
        lifts.call(15, 0);
        lifts.call(15, 0);
        // The caller of car 0 is brought on the way; that of car 1 or 2 has to wait for the other's.
        worst(lifts, "with three who each have a car", 1, 64);
    }

    /** "cars that have failed do not count", those that are held do */
    private static void worstCarHeldCounts() {
        GoalLifts lifts = Houses.with(0, 15, 1, 0, 15, 1);
        lifts.call(0, 5);
        lifts.hold(0, 1);
        // The failure of car 0 would let car 1 bring the caller; that of car 1 leaves the caller in car 0.
        worst(lifts, "one held with the caller", 1, 401);
        lifts.fail(1);
        worst(lifts, "the held one alone", 0, 401);
        lifts.repair(1);
        lifts.hold(1, 1);
        worst(lifts, "both held", 0, 401);
        lifts.hold(0, 0);
        lifts.pass(200);
        worst(lifts, "one held, all there", 0, 0);
    }

    /** "a caller who would not be there within 400 ticks counts as 401" */
    private static void worstCar400() {
        GoalLifts lifts = lateHouse();
        worst(lifts, "in 401 ticks with car 0 failed, never with car 1", 0, 401);
        lifts.undo();
        lifts.undo();
        lifts.pass(50);
        lifts.call(15, 0);
        worst(lifts, "in 402 ticks with car 0 failed, never with car 1", 0, 401);
        lifts.pass(2);
        worst(lifts, "in 400 ticks with car 0 failed, never with car 1", 1, 401);
        lifts.addCar(0, 15, 1);
        worst(lifts, "in 400 ticks whichever fails", 0, 400);
        lifts.pass(1);
        worst(lifts, "in 399 ticks whichever fails", 0, 399);
    }

    private static void worstCarBehindTheLastTick() {
        GoalLifts lifts = Houses.passTo(Houses.with(0, 15, 1, 0, 15, 1), 20000);
        lifts.call(15, 0);
        worst(lifts, "at the tick 20000", 0, 32);
    }

    private static void worst(GoalLifts lifts, String when, int car, int ticks) {
        CHECK.due("worstCar(0) " + when, lifts.worstCar(0), car);
        CHECK.due("worstCar(1) " + when, lifts.worstCar(1), ticks);
    }

    /** "what could be, which changes nothing" */
    private static void theyChangeNothing() {
        CHECK.changesNothing("what could be", Houses::busy, EdgesOfForecastsTest::askAll);
        CHECK.changesNothing("what could be in a full house", Houses::full, EdgesOfForecastsTest::askAll);
        CHECK.changesNothing("what could be in a new house", GoalLifts::new, EdgesOfForecastsTest::askAll);
    }

    private static void askAll(GoalLifts lifts) {
        for (int car = 0; car < 5; car++) {
            lifts.cost(car, 5, 6);
            lifts.thereIn(car);
        }
        for (int what = 0; what <= 2; what++) {
            lifts.waits(what);
            lifts.worstCar(what);
            lifts.would(5, what);
        }
    }
}
