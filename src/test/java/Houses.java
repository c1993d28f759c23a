/** Houses for the tests. */
final class Houses {
    private Houses() {
    }

    /** A house with a car for each three numbers: lowest floor, highest floor, places. */
    static GoalLifts with(int... cars) {
        GoalLifts lifts = new GoalLifts();
        for (int i = 0; i + 2 < cars.length; i += 3) {
            lifts.addCar(cars[i], cars[i + 1], cars[i + 2]);
        }
        return lifts;
    }

    /** Five cars for all floors, with this many places each. */
    static GoalLifts withFive(int places) {
        return with(0, 15, places, 0, 15, places, 0, 15, places, 0, 15, places, 0, 15, places);
    }

    static GoalLifts call(GoalLifts lifts, int callers, int floor, int goal) {
        for (int i = 0; i < callers; i++) {
            lifts.call(floor, goal);
        }
        return lifts;
    }

    /** Lets ticks go by until the tick is this one, in as few calls as can be. */
    static GoalLifts passTo(GoalLifts lifts, int tick) {
        for (int now = lifts.count(0); now < tick; now += 200) {
            lifts.pass(Math.min(200, tick - now));
        }
        return lifts;
    }

    static GoalLifts undoAll(GoalLifts lifts) {
        for (int i = 0; i < 5; i++) {
            lifts.undo();
        }
        return lifts;
    }

    /**
     * At the tick 65, with five states in the history: callers 0 and 1 there, 2 rides in car 0 and is
     * on floor 2, 3 and 4 wait for it, 5 and 6 are looking; car 1 is held, car 2 has failed.
     */
    static GoalLifts busy() {
        GoalLifts lifts = with(0, 9, 1, 4, 15, 1, 10, 15, 1);
        lifts.setAwake(5, 3);
        lifts.call(0, 5);
        lifts.call(5, 0);
        lifts.pass(62);
        lifts.hold(1, 1);
        lifts.fail(2);
        lifts.call(0, 8);
        lifts.call(3, 1);
        lifts.call(3, 1);
        lifts.call(12, 11);
        lifts.call(12, 4);
        lifts.pass(3);
        return lifts;
    }

    /** Five cars, of which car 0 is held and the others have failed, forty who are there, the tick 20000. */
    static GoalLifts full() {
        GoalLifts lifts = passTo(call(passTo(withFive(8), 19900), 40, 3, 9), 20000);
        lifts.hold(0, 1);
        for (int car = 1; car < 5; car++) {
            lifts.fail(car);
        }
        return lifts;
    }
}
