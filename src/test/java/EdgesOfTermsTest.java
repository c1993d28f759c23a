/** The sentences of "Terms" that name an edge; each test has the words that it stands for. */
public final class EdgesOfTermsTest {
    private static final Check CHECK = new Check();

    public static void main(String[] args) {
        calls512();
        floors16();
        carsAtFirst();
        callersAreNumbered();
        hours();
        awakeAtFirst();
        smallerNumbersAreAwake();
        othersGoOn();
        stopsAreDifferentFloors();
        costOfOthers();
        costIsGreatest();
        smallestNumberOfSeveral();
        lookingGoFirst();
        lookingByTheHourOfTheTick();
        noneToTakeOrToLetOut();
        eightPlaces();
        fullCarStopsForNobody();
        takeAfterLettingOut();
        oneStopForAll();
        aimOfTwoAsNear();
        aimOfThoseWhoWait();
        travelAtTheEnds();
        heldAndFailedDoNothing();
        failWithoutCallers();
        failOnTheGoal();
        failLeavesOtherCars();
        failedGivenInTheNextTick();
        groupsOfTwoKinds();
        groupsInOrder();
        fortyGroups();
        fiveStates();
        sixthState();
        emptyHistory();
        nothingChangesButIsRecorded();
        CHECK.end("EdgesOfTermsTest");
    }

    /** "An object is used for at most 512 calls": the 512th one still answers as the others do. */
    private static void calls512() {
        GoalLifts lifts = new GoalLifts();
        for (int call = 1; call <= 511; call++) {
            CHECK.due("call " + call, lifts.pass(39), 0);
        }
        CHECK.due("the 512th call", lifts.count(0), 511 * 39);
        GoalLifts others = new GoalLifts();
        for (int call = 1; call <= 511; call++) {
            CHECK.due("call " + call, others.setAwake(call % 24, 1 + call % 5), call <= 24 ? 5 : 1 + (call - 24) % 5);
        }
        CHECK.due("the 512th call", others.undo(), 4);
    }

    /** "There are 16 floors, numbered from 0." */
    private static void floors16() {
        GoalLifts lifts = Houses.with(0, 15, 1);
        CHECK.due("from the lowest to the highest", lifts.call(0, 15), 0);
        CHECK.due("from the highest to the lowest", lifts.call(15, 0), 1);
        CHECK.due("below the lowest", lifts.call(-1, 0), Check.INVALID);
        CHECK.due("above the highest", lifts.call(16, 15), Check.INVALID);
        CHECK.due("to below the lowest", lifts.call(0, -1), Check.INVALID);
        CHECK.due("to above the highest", lifts.call(15, 16), Check.INVALID);
        // One to take, fifteen up, one to let out and take, fifteen down, one to let out.
        CHECK.due("both are there", lifts.pass(33), 2);
        CHECK.due("the last one in the tick", lifts.caller(1, 6), 32);
    }

    /** "a floor on which it is (at first the lowest one of its zone)", "A car is ready (at first)" */
    private static void carsAtFirst() {
        for (int lowest = 0; lowest <= 14; lowest++) {
            GoalLifts lifts = Houses.with(lowest, 15, 1);
            CHECK.due("floor at first of the zone from " + lowest, lifts.car(0, 0), lowest);
            CHECK.due("ready at first", lifts.car(0, 1), 0);
            CHECK.due("travelled at first", lifts.car(0, 6), 0);
        }
    }

    /** "at most 40 callers, numbered from 0 in the order in which they called" */
    private static void callersAreNumbered() {
        GoalLifts lifts = new GoalLifts();
        for (int caller = 0; caller < 40; caller++) {
            CHECK.due("number of the caller", lifts.call(caller % 15, 15), caller);
            CHECK.due("number of callers", lifts.count(3), caller + 1);
        }
        CHECK.due("the 41st", lifts.call(0, 15), Check.CAPACITY);
        for (int caller = 0; caller < 40; caller++) {
            CHECK.due("floor of caller " + caller, lifts.caller(caller, 0), caller % 15);
        }
    }

    /** "The hour is the tick divided by 60, rounded down, modulo 24." */
    private static void hours() {
        int[][] hours = {{0, 0}, {1, 0}, {59, 0}, {60, 1}, {119, 1}, {120, 2}, {1379, 22}, {1380, 23},
            {1439, 23}, {1440, 0}, {1499, 0}, {1500, 1}, {2879, 23}, {2880, 0}, {19979, 20}, {19980, 21},
            {20000, 21}};
        GoalLifts lifts = new GoalLifts();
        for (int[] h : hours) {
            Houses.passTo(lifts, h[0]);
            CHECK.due("hour at the tick " + h[0], lifts.count(1), h[1]);
        }
    }

    /** "For each hour there is a number of cars, 1 to 5 (at first 5)" */
    private static void awakeAtFirst() {
        GoalLifts lifts = Houses.withFive(1);
        for (int hour = 0; hour < 24; hour++) {
            CHECK.due("hour", lifts.count(1), hour);
            CHECK.due("the last car in the hour " + hour, lifts.car(4, 7), 1);
            Houses.passTo(lifts, hour * 60 + 60);
        }
    }

    /** "the cars with smaller numbers than this are awake" */
    private static void smallerNumbersAreAwake() {
        for (int awake = 1; awake <= 5; awake++) {
            GoalLifts lifts = Houses.withFive(1);
            lifts.setAwake(0, awake);
            for (int car = 0; car < 5; car++) {
                CHECK.due("car " + car + " of " + awake, lifts.car(car, 7), car < awake ? 1 : 0);
                CHECK.due("cost of car " + car + " of " + awake, lifts.cost(car, 1, 2), car < awake ? 5 : Check.NONE);
            }
        }
        GoalLifts few = Houses.with(0, 15, 1);
        few.setAwake(0, 5);
        CHECK.due("more awake than there are cars", few.would(0, 15), 0);
    }

    /** "the others go on with the callers that they have" */
    private static void othersGoOn() {
        GoalLifts lifts = Houses.with(0, 1, 1, 0, 15, 2);
        lifts.call(0, 4);
        lifts.call(2, 5);
        lifts.pass(1);
        lifts.setAwake(0, 1);
        CHECK.due("asleep with one who rides and one who waits", lifts.car(1, 2) * 10 + lifts.car(1, 3), 11);
        CHECK.due("none else is given it", lifts.would(2, 5), Check.NONE);
        // Two up, one to take, two up, one to let out, one up, one to let out.
        CHECK.due("it takes and lets out", lifts.pass(8), 2);
        CHECK.due("its aim then", lifts.car(1, 5), Check.NONE);
    }

    /** "Its stops are the different floors among the floors and goals of all callers who wait for it" */
    private static void stopsAreDifferentFloors() {
        GoalLifts lifts = Houses.with(0, 15, 8);
        CHECK.due("without callers", lifts.car(0, 4), 0);
        lifts.call(3, 4);
        CHECK.due("two floors", lifts.car(0, 4), 2);
        lifts.call(4, 3);
        CHECK.due("the same two the other way", lifts.car(0, 4), 2);
        lifts.call(3, 5);
        CHECK.due("one more", lifts.car(0, 4), 3);
        Houses.passTo(lifts, 4);
        CHECK.due("the goals alone of two who ride, and both floors of one who waits", lifts.car(0, 4), 3);
        Houses.passTo(lifts, 6);
        CHECK.due("the goals 3 and 5 of two who ride", lifts.car(0, 4), 2);
        Houses.passTo(lifts, 9);
        CHECK.due("none when all are there", lifts.count(7) * 10 + lifts.car(0, 4), 21);
        lifts.pass(20);
        CHECK.due("none when all are there", lifts.count(7) * 10 + lifts.car(0, 4), 30);
        GoalLifts all = Houses.with(0, 15, 8);
        for (int floor = 0; floor < 16; floor += 2) {
            all.call(floor, floor + 1);
        }
        CHECK.due("all floors", all.car(0, 4), 16);
    }

    /** "plus the number of others who wait for it or ride in it" */
    private static void costOfOthers() {
        GoalLifts lifts = Houses.with(0, 15, 1);
        CHECK.due("without others", lifts.cost(0, 0, 9), 0 + 2 * 2);
        Houses.call(lifts, 2, 0, 9);
        CHECK.due("with two who wait", lifts.cost(0, 0, 9), 0 + 2 * 2 + 2);
        lifts.pass(1);
        CHECK.due("with one who rides and one who waits", lifts.cost(0, 0, 9), 0 + 2 * 2 + 2);
        Houses.passTo(lifts, 11);
        CHECK.due("with one who is there and one who waits", lifts.cost(0, 9, 0), 0 + 2 * 2 + 1);
        Houses.passTo(lifts, 60);
        CHECK.due("with two who are there", lifts.cost(0, 9, 0), 0 + 2 * 2);
    }

    /** The greatest distance, all floors as stops, and all callers as others. */
    private static void costIsGreatest() {
        GoalLifts lifts = Houses.with(0, 15, 8);
        for (int caller = 0; caller < 40; caller++) {
            lifts.call(caller % 16, (caller + 1) % 16);
        }
        CHECK.due("with forty others", lifts.cost(0, 15, 0), 15 + 2 * 16 + 40);
        CHECK.due("of forty callers none more can call, but it is told", lifts.would(15, 0), 0);
    }

    /** "of several the one with the smallest number; a caller for whom there is no such car is looking" */
    private static void smallestNumberOfSeveral() {
        GoalLifts lifts = Houses.withFive(1);
        for (int caller = 0; caller < 10; caller++) {
            lifts.call(0, 15);
            CHECK.due("car of caller " + caller, lifts.caller(caller, 3), caller % 5);
        }
        GoalLifts zones = Houses.with(1, 14, 1);
        int[][] ways = {{0, 7}, {7, 0}, {15, 7}, {7, 15}, {0, 15}};
        for (int[] w : ways) {
            int caller = zones.call(w[0], w[1]);
            CHECK.due("from " + w[0] + " to " + w[1] + " is looking", zones.caller(caller, 2), 0);
        }
        CHECK.due("both ends of the zone", zones.caller(zones.call(1, 14), 2), 1);
        CHECK.due("both ends of the zone", zones.caller(zones.call(14, 1), 2), 1);
    }

    /** "1. The callers who are looking are gone through by their numbers; each is given a car as told" */
    private static void lookingGoFirst() {
        GoalLifts lifts = new GoalLifts();
        Houses.call(lifts, 6, 0, 9);
        for (int car = 0; car < 5; car++) {
            lifts.addCar(0, 15, 1);
        }
        CHECK.due("a car that is added is not given before the tick", lifts.count(4), 6);
        lifts.pass(1);
        for (int caller = 0; caller < 6; caller++) {
            CHECK.due("car of caller " + caller, lifts.caller(caller, 3), caller % 5);
            CHECK.due("caller " + caller + " rides in this tick", lifts.caller(caller, 2), caller < 5 ? 2 : 1);
        }
    }

    /** The hour is that of the tick that is done, not of the next one. */
    private static void lookingByTheHourOfTheTick() {
        GoalLifts lifts = Houses.with(0, 1, 1, 0, 15, 1);
        lifts.setAwake(0, 1);
        lifts.setAwake(2, 1);
        lifts.call(9, 10);
        Houses.passTo(lifts, 60);
        CHECK.due("looking still after the tick 59", lifts.caller(0, 2), 0);
        lifts.pass(1);
        CHECK.due("given in the tick 60", lifts.caller(0, 3), 1);
        lifts.undo();
        lifts.fail(1);
        Houses.passTo(lifts, 119);
        lifts.repair(1);
        lifts.pass(1);
        CHECK.due("given in the tick 119", lifts.caller(0, 3), 1);
        lifts.undo();
        lifts.fail(1);
        lifts.pass(1);
        lifts.repair(1);
        lifts.pass(1);
        CHECK.due("not given in the tick 120", lifts.caller(0, 2), 0);
    }

    /** "Otherwise, if there is anybody who rides in it or waits for it, it travels one floor" */
    private static void noneToTakeOrToLetOut() {
        GoalLifts lifts = Houses.with(2, 9, 1);
        lifts.pass(200);
        CHECK.due("floor of a car without callers", lifts.car(0, 0), 2);
        CHECK.due("floors travelled", lifts.count(9), 0);
        CHECK.due("stops made", lifts.count(10), 0);
        lifts.call(12, 13);
        lifts.pass(200);
        CHECK.due("floor with one who is looking", lifts.car(0, 0), 2);
        lifts.call(9, 2);
        lifts.pass(1);
        CHECK.due("one floor in a tick", lifts.car(0, 0), 3);
        lifts.pass(6);
        CHECK.due("on the floor it is not taken yet", lifts.caller(1, 2), 1);
        CHECK.due("floors travelled", lifts.car(0, 6), 7);
        lifts.pass(1);
        CHECK.due("taken", lifts.caller(1, 2), 2);
        CHECK.due("a stop takes a tick", lifts.car(0, 0), 9);
        lifts.pass(7);
        CHECK.due("not there before it stops", lifts.count(7), 0);
        CHECK.due("there", lifts.pass(1), 1);
        CHECK.due("floors travelled", lifts.count(9), 14);
        CHECK.due("stops made", lifts.count(10), 2);
    }

    /** "by their numbers, as long as there are fewer in it than it has places" */
    private static void eightPlaces() {
        for (int places = 1; places <= 8; places++) {
            GoalLifts lifts = Houses.call(Houses.with(0, 15, places), 10, 0, 5);
            lifts.pass(1);
            CHECK.due("who ride in a car of " + places, lifts.car(0, 2), places);
            CHECK.due("who wait for a car of " + places, lifts.car(0, 3), 10 - places);
            CHECK.due("the last one taken", lifts.caller(places - 1, 2), 2);
            CHECK.due("the first one left", lifts.caller(places, 2), 1);
        }
    }

    /** "There is somebody to take only if there is a free place" */
    private static void fullCarStopsForNobody() {
        GoalLifts lifts = Houses.call(Houses.with(0, 15, 8), 8, 0, 5);
        lifts.call(0, 5);
        lifts.call(1, 5);
        lifts.pass(2);
        CHECK.due("full on the floor of one who waits, it travels", lifts.car(0, 0), 1);
        lifts.pass(1);
        CHECK.due("full on another such floor, it travels", lifts.car(0, 0), 2);
        CHECK.due("stops made", lifts.count(10), 1);
        GoalLifts free = Houses.call(Houses.with(0, 15, 8), 7, 0, 5);
        free.call(1, 5);
        free.call(1, 5);
        free.pass(3);
        CHECK.due("with one free place it stops", free.car(0, 0), 1);
        CHECK.due("for the first of two", free.caller(7, 2) * 10 + free.caller(8, 2), 21);
        free.pass(1);
        CHECK.due("and travels past the other", free.car(0, 0), 2);
    }

    /** "or if somebody is let out there in the same tick" */
    private static void takeAfterLettingOut() {
        GoalLifts lifts = Houses.with(0, 15, 2);
        lifts.call(0, 3);
        lifts.call(0, 9);
        lifts.call(3, 8);
        lifts.call(3, 7);
        Houses.passTo(lifts, 4);
        CHECK.due("full on 3", lifts.car(0, 0) * 10 + lifts.car(0, 2), 32);
        CHECK.due("one is let out", lifts.pass(1), 1);
        CHECK.due("one is taken, the first", lifts.caller(2, 5), 4);
        CHECK.due("the other one waits", lifts.caller(3, 2), 1);
        CHECK.due("full again", lifts.car(0, 2), 2);
        GoalLifts eight = Houses.call(Houses.call(Houses.with(0, 15, 8), 8, 0, 1), 9, 1, 0);
        eight.pass(2);
        CHECK.due("eight are let out", eight.pass(1), 8);
        CHECK.due("eight are taken", eight.car(0, 2), 8);
        CHECK.due("one is left", eight.car(0, 3), 1);
    }

    /** "a car stops in this tick": one stop, be there one or more to let out and to take */
    private static void oneStopForAll() {
        GoalLifts lifts = Houses.call(Houses.call(Houses.with(0, 15, 8), 3, 0, 1), 4, 1, 2);
        lifts.pass(1);
        CHECK.due("one stop to take three", lifts.count(10), 1);
        lifts.pass(1);
        CHECK.due("no stop to travel", lifts.count(10), 1);
        lifts.pass(1);
        CHECK.due("one stop to let out three and take four", lifts.count(10), 2);
        lifts.pass(2);
        CHECK.due("one stop to let out four", lifts.count(10), 3);
        GoalLifts two = Houses.call(Houses.with(0, 15, 1, 0, 15, 1), 2, 0, 1);
        two.pass(1);
        CHECK.due("a stop for each car", two.count(10), 2);
    }

    /** "the goal of those who ride in it that is nearest to its floor, of two that are as near the lower one" */
    private static void aimOfTwoAsNear() {
        int[][] goals = {{6, 8, 6}, {8, 6, 6}, {5, 9, 5}, {0, 14, 0}, {14, 0, 0}, {6, 9, 6}, {5, 8, 8}, {8, 9, 8},
            {5, 6, 6}, {0, 13, 13}, {1, 14, 1}, {15, 0, 0}};
        for (int[] g : goals) {
            GoalLifts lifts = Houses.with(0, 15, 2);
            lifts.call(7, g[0]);
            lifts.call(7, g[1]);
            Houses.passTo(lifts, 8);
            String which = "between " + g[0] + " and " + g[1];
            CHECK.due("both ride on 7 " + which, lifts.car(0, 0) * 10 + lifts.car(0, 2), 72);
            CHECK.due("aim " + which, lifts.car(0, 5), g[2]);
            lifts.pass(1);
            CHECK.due("the next floor " + which, lifts.car(0, 0), g[2] < 7 ? 6 : 8);
        }
    }

    /** "if nobody rides in it, it is the floor of the one with the smallest number who waits for it" */
    private static void aimOfThoseWhoWait() {
        GoalLifts lifts = Houses.with(0, 15, 8);
        lifts.call(15, 1);
        lifts.call(1, 15);
        CHECK.due("the floor of the smallest number", lifts.car(0, 5), 15);
        Houses.passTo(lifts, 1);
        lifts.hold(0, 1);
        CHECK.due("held", lifts.car(0, 5), 15);
        lifts.hold(0, 0);
        lifts.pass(1);
        CHECK.due("on the way it takes the other", lifts.caller(1, 2), 2);
        CHECK.due("the goal of one who rides", lifts.car(0, 5), 15);
        GoalLifts near = Houses.with(0, 15, 1);
        near.call(0, 1);
        near.call(9, 8);
        near.pass(1);
        CHECK.due("the goal of one who rides, not the floor of one who waits", near.car(0, 5), 1);
        near.pass(1);
        CHECK.due("on the goal the aim is this floor", near.car(0, 5), 1);
        near.pass(1);
        CHECK.due("the floor of one who waits", near.car(0, 5), 9);
    }

    /** A car travels to the lowest and to the highest floor, and not beyond. */
    private static void travelAtTheEnds() {
        GoalLifts lifts = Houses.with(0, 15, 1);
        lifts.call(15, 0);
        for (int tick = 1; tick <= 15; tick++) {
            lifts.pass(1);
            CHECK.due("floor at the tick " + tick, lifts.car(0, 0), tick);
        }
        lifts.pass(1);
        for (int tick = 1; tick <= 15; tick++) {
            lifts.pass(1);
            CHECK.due("floor on the way down at " + tick, lifts.car(0, 0), 15 - tick);
        }
        lifts.pass(5);
        CHECK.due("floor in the end", lifts.car(0, 0), 0);
        CHECK.due("travelled", lifts.car(0, 6), 30);
    }

    /** "A car that is held or has failed does nothing." */
    private static void heldAndFailedDoNothing() {
        GoalLifts lifts = Houses.with(0, 15, 2);
        lifts.call(0, 1);
        lifts.hold(0, 1);
        lifts.pass(200);
        CHECK.due("held, it does not take", lifts.caller(0, 2), 1);
        lifts.hold(0, 0);
        lifts.pass(1);
        lifts.hold(0, 1);
        lifts.pass(200);
        CHECK.due("held, it does not travel", lifts.car(0, 0), 0);
        lifts.hold(0, 0);
        lifts.pass(1);
        lifts.hold(0, 1);
        CHECK.due("held, it does not let out", lifts.pass(200), 0);
        CHECK.due("floors travelled", lifts.count(9), 1);
        CHECK.due("stops made", lifts.count(10), 1);
        lifts.hold(0, 0);
        CHECK.due("ready, it lets out", lifts.pass(1), 1);
        lifts.call(1, 0);
        lifts.fail(0);
        lifts.pass(200);
        CHECK.due("failed, it is not given", lifts.caller(1, 2), 0);
        CHECK.due("failed, it stays", lifts.car(0, 0), 1);
    }

    /** A car without callers fails: nobody is looking by it. */
    private static void failWithoutCallers() {
        GoalLifts lifts = Houses.with(0, 15, 2, 0, 9, 1);
        CHECK.due("without callers", lifts.fail(0), 0);
        lifts.call(0, 9);
        lifts.call(12, 9);
        CHECK.due("one is looking who never had a car", lifts.count(4), 1);
        lifts.repair(0);
        CHECK.due("one of another car and one who is looking", lifts.fail(0), 1);
    }

    /** "who rode in it and has this floor for the goal is there at once, brought by it" */
    private static void failOnTheGoal() {
        GoalLifts lifts = Houses.with(0, 15, 2);
        lifts.call(0, 4);
        lifts.call(0, 9);
        lifts.call(9, 4);
        Houses.passTo(lifts, 5);
        CHECK.due("on the goal of one", lifts.car(0, 0), 4);
        CHECK.due("two are looking then", lifts.fail(0), 2);
        CHECK.due("who rode to this floor is there", lifts.caller(0, 2), 3);
        CHECK.due("brought by the car", lifts.caller(0, 3), 0);
        CHECK.due("in this tick", lifts.caller(0, 6), 5);
        CHECK.due("who rode further is looking on it", lifts.caller(1, 2) * 100 + lifts.caller(1, 0), 4);
        CHECK.due("who only waited to go to this floor is looking", lifts.caller(2, 2), 0);
        CHECK.due("on the floor of the call", lifts.caller(2, 0), 9);
        CHECK.due("never there", lifts.caller(2, 6), Check.NONE);
        lifts.undo();
        lifts.hold(0, 1);
        CHECK.due("a held car fails in the same way", lifts.fail(0), 2);
        CHECK.due("who rode to this floor is there", lifts.count(7), 1);
        GoalLifts near = Houses.with(0, 15, 2);
        near.call(0, 4);
        Houses.passTo(near, 4);
        CHECK.due("a floor before the goal", near.car(0, 0), 3);
        CHECK.due("is looking", near.fail(0), 1);
        CHECK.due("with the floor of the car", near.caller(0, 0), 3);
    }

    /** Who waits for another car, rides in it, or is there, stays so. */
    private static void failLeavesOtherCars() {
        GoalLifts lifts = Houses.with(0, 15, 1, 0, 15, 1);
        Houses.call(lifts, 4, 0, 5);
        lifts.pass(1);
        CHECK.due("one rides in each car and one waits for it", lifts.count(6) * 10 + lifts.count(5), 22);
        CHECK.due("two lose the car", lifts.fail(1), 2);
        CHECK.due("who rides in the other", lifts.caller(0, 2), 2);
        CHECK.due("who waits for the other", lifts.caller(2, 2), 1);
        CHECK.due("whose car it is", lifts.caller(2, 3), 0);
        CHECK.due("who rode in it", lifts.caller(1, 2), 0);
        CHECK.due("who waited for it", lifts.caller(3, 2), 0);
        lifts.pass(200);
        lifts.fail(0);
        CHECK.due("who are there stay there", lifts.count(7), 4);
        CHECK.due("brought by the car that has failed", lifts.caller(0, 3), 0);
    }

    /** "(They are given cars in the next tick.)" */
    private static void failedGivenInTheNextTick() {
        GoalLifts lifts = Houses.with(0, 15, 1, 0, 15, 1);
        lifts.call(0, 9);
        lifts.fail(0);
        CHECK.due("looking with another car ready", lifts.caller(0, 2), 0);
        CHECK.due("though it could be given", lifts.would(0, 9), 1);
        lifts.pass(1);
        CHECK.due("given in the next tick", lifts.caller(0, 3), 1);
        CHECK.due("how often", lifts.caller(0, 7), 2);
    }

    /** "All callers who are looking or waiting and have the same floor and the same goal are a group." */
    private static void groupsOfTwoKinds() {
        GoalLifts lifts = new GoalLifts();
        CHECK.due("no callers", lifts.count(8), 0);
        lifts.call(3, 5);
        lifts.addCar(0, 15, 1);
        lifts.call(3, 5);
        CHECK.due("one is looking and one waits", lifts.caller(0, 2) * 10 + lifts.caller(1, 2), 1);
        CHECK.due("they are one group", lifts.count(8), 1);
        CHECK.due("of two", lifts.group(0, 2), 2);
        lifts.call(3, 6);
        lifts.call(4, 5);
        lifts.call(5, 3);
        CHECK.due("another goal, another floor, the way back", lifts.count(8), 4);
        Houses.passTo(lifts, 4);
        CHECK.due("who rides is in no group", lifts.count(6) * 10 + lifts.group(0, 2), 11);
        GoalLifts one = Houses.with(0, 15, 1);
        one.call(0, 5);
        CHECK.due("one caller is a group", one.group(0, 2), 1);
        one.pass(1);
        CHECK.due("none while the one rides", one.count(8), 0);
        one.pass(200);
        CHECK.due("none when the one is there", one.count(8), 0);
    }

    /** "Groups are in the order in which the smallest numbers of their callers come." */
    private static void groupsInOrder() {
        GoalLifts lifts = Houses.with(0, 15, 1);
        lifts.call(0, 9);
        lifts.call(1, 9);
        lifts.call(0, 9);
        lifts.call(1, 9);
        CHECK.due("the first group's first", lifts.group(0, 3), 0);
        CHECK.due("the second group's first", lifts.group(1, 3), 1);
        lifts.pass(1);
        CHECK.due("when 0 rides the group of 1 is the first", lifts.group(0, 3), 1);
        CHECK.due("and the group of 2 the second", lifts.group(1, 3), 2);
        CHECK.due("of one", lifts.group(1, 2), 1);
        lifts.pass(1);
        lifts.fail(0);
        CHECK.due("0 is on floor 1 then, in one group with 1 and 3", lifts.group(0, 2), 3);
        CHECK.due("whose first is 0", lifts.group(0, 3), 0);
        CHECK.due("the other group's first", lifts.group(1, 3), 2);
    }

    /** Forty callers with forty ways are forty groups. */
    private static void fortyGroups() {
        GoalLifts lifts = new GoalLifts();
        for (int caller = 0; caller < 40; caller++) {
            lifts.call(caller % 16, (caller + 1 + caller / 16) % 16);
        }
        CHECK.due("groups", lifts.count(8), 40);
        for (int index = 0; index < 40; index++) {
            CHECK.due("first of group " + index, lifts.group(index, 3), index);
            CHECK.due("floor of group " + index, lifts.group(index, 0), index % 16);
            CHECK.due("goal of group " + index, lifts.group(index, 1), (index + 1 + index / 16) % 16);
            CHECK.due("size of group " + index, lifts.group(index, 2), 1);
        }
        CHECK.due("one group more", lifts.group(40, 0), Check.NONE);
    }

    /** "A history of at most 5 states is kept" */
    private static void fiveStates() {
        for (int calls = 0; calls <= 5; calls++) {
            GoalLifts lifts = Houses.call(new GoalLifts(), calls, 0, 1);
            CHECK.due("states after " + calls, lifts.count(13), calls);
            for (int left = calls - 1; left >= 0; left--) {
                CHECK.due("undo() of " + calls, lifts.undo(), left);
                CHECK.due("callers after it", lifts.count(3), left);
                CHECK.due("states after it", lifts.count(13), left);
            }
            CHECK.due("undo() without states", lifts.undo(), Check.STATE);
        }
    }

    /** "when a sixth one is recorded, the oldest one is dropped" */
    private static void sixthState() {
        for (int calls = 6; calls <= 12; calls++) {
            GoalLifts lifts = Houses.call(new GoalLifts(), calls, 0, 1);
            CHECK.due("states after " + calls, lifts.count(13), 5);
            for (int undone = 1; undone <= 5; undone++) {
                CHECK.due("undo() of " + calls, lifts.undo(), 5 - undone);
                CHECK.due("callers after it", lifts.count(3), calls - undone);
            }
            CHECK.due("the oldest ones are dropped", lifts.undo(), Check.STATE);
            CHECK.due("callers stay", lifts.count(3), calls - 5);
        }
    }

    /** After undo() has emptied the history, it fills as at first; what was undone does not come back. */
    private static void emptyHistory() {
        GoalLifts lifts = Houses.undoAll(Houses.call(new GoalLifts(), 7, 0, 1));
        CHECK.due("callers", lifts.count(3), 2);
        CHECK.due("undo() without states", lifts.undo(), Check.STATE);
        lifts.pass(9);
        CHECK.due("one state", lifts.count(13), 1);
        CHECK.due("undo()", lifts.undo(), 0);
        CHECK.due("tick", lifts.count(0), 0);
        CHECK.due("undo() without states", lifts.undo(), Check.STATE);
        CHECK.due("callers stay", lifts.count(3), 2);
        Houses.call(lifts, 5, 2, 3);
        lifts.undo();
        lifts.undo();
        lifts.pass(3);
        CHECK.due("states", lifts.count(13), 4);
        CHECK.due("undo()", lifts.undo(), 3);
        CHECK.due("callers", lifts.count(3), 5);
        CHECK.due("undo()", lifts.undo(), 2);
        CHECK.due("callers", lifts.count(3), 4);
    }

    /** "records the state before it (also if nothing changes by it)" */
    private static void nothingChangesButIsRecorded() {
        GoalLifts lifts = new GoalLifts();
        for (int i = 1; i <= 6; i++) {
            CHECK.due("setAwake(0, 5)", lifts.setAwake(0, 5), 5);
            CHECK.due("states", lifts.count(13), Math.min(i, 5));
        }
        lifts.undo();
        CHECK.due("undo() is not recorded", lifts.count(13), 4);
    }
}
