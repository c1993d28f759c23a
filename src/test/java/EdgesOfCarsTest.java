/** The edges of promises 1 to 6: the new object, addCar, setAwake, hold, fail, repair. */
public final class EdgesOfCarsTest {
    private static final Check CHECK = new Check();

    public static void main(String[] args) {
        newObject();
        newObjectHasNoCars();
        addCarLeastAndGreatestFloors();
        addCarHighestIsMore();
        addCarLeastAndGreatestPlaces();
        addCarFive();
        addCarWrongOfFive();
        addCarAfterUndo();
        setAwakeLeastAndGreatestHour();
        setAwakeLeastAndGreatestCars();
        setAwakeOfAnHourIsItsOwn();
        setAwakeBehindHour23();
        holdFirstAndLastCar();
        holdNobody();
        holdOneToForty();
        holdSoAlready();
        holdFailed();
        holdWrongBeforeState();
        failFirstAndLastCar();
        failNobody();
        failFull();
        failForty();
        failAlready();
        failAtTheLastTick();
        repairFirstAndLastCar();
        repairNotFailed();
        repairIsReadyNotHeld();
        CHECK.end("EdgesOfCarsTest");
    }

    /** "Creates a house without cars and callers, at the tick 0." */
    private static void newObject() {
        GoalLifts lifts = new GoalLifts();
        CHECK.due("tick", lifts.count(0), 0);
        CHECK.due("cars", lifts.count(2), 0);
        CHECK.due("callers", lifts.count(3), 0);
        CHECK.due("states", lifts.count(13), 0);
        CHECK.due("groups", lifts.group(0, 0), Check.NONE);
        CHECK.due("undo()", lifts.undo(), Check.STATE);
        CHECK.due("would(0, 15)", lifts.would(0, 15), Check.NONE);
        CHECK.due("greatest wait", lifts.waits(0), Check.NONE);
        CHECK.due("who has it", lifts.waits(1), Check.NONE);
        CHECK.due("sum of waits", lifts.waits(2), 0);
        CHECK.due("worst car", lifts.worstCar(0), Check.NONE);
        CHECK.due("its ticks", lifts.worstCar(1), Check.NONE);
        CHECK.due("who are there after a tick", lifts.pass(1), 0);
    }

    /** Without a car no number names one, nor does any name a caller. */
    private static void newObjectHasNoCars() {
        for (int number = -1; number <= 40; number++) {
            GoalLifts lifts = new GoalLifts();
            CHECK.due("hold(" + number + ", 1)", lifts.hold(number, 1), Check.INVALID);
            CHECK.due("fail(" + number + ")", lifts.fail(number), Check.INVALID);
            CHECK.due("repair(" + number + ")", lifts.repair(number), Check.INVALID);
            CHECK.due("car(" + number + ", 0)", lifts.car(number, 0), Check.INVALID);
            CHECK.due("caller(" + number + ", 0)", lifts.caller(number, 0), Check.INVALID);
            CHECK.due("cost(" + number + ", 0, 1)", lifts.cost(number, 0, 1), Check.INVALID);
            CHECK.due("thereIn(" + number + ")", lifts.thereIn(number), Check.INVALID);
            CHECK.due("states", lifts.count(13), 0);
        }
    }

    /** "lowest: 0 to 14", "highest: 1 to 15" */
    private static void addCarLeastAndGreatestFloors() {
        addCar(0, 1, 1, 0);
        addCar(-1, 1, 1, Check.INVALID);
        addCar(14, 15, 1, 0);
        addCar(15, 15, 1, Check.INVALID);
        addCar(15, 16, 1, Check.INVALID);
        addCar(0, 15, 1, 0);
        addCar(0, 16, 1, Check.INVALID);
        addCar(14, 16, 1, Check.INVALID);
        addCar(-1, 0, 1, Check.INVALID);
        addCar(-1, 15, 1, Check.INVALID);
        addCar(Integer.MIN_VALUE, 15, 1, Check.INVALID);
        addCar(0, Integer.MAX_VALUE, 1, Check.INVALID);
    }

    /** "more than lowest" */
    private static void addCarHighestIsMore() {
        for (int lowest = 0; lowest <= 14; lowest++) {
            addCar(lowest, lowest - 1, 1, Check.INVALID);
            addCar(lowest, lowest, 1, Check.INVALID);
            addCar(lowest, lowest + 1, 1, 0);
        }
        addCar(14, 0, 1, Check.INVALID);
        addCar(15, 1, 1, Check.INVALID);
    }

    /** "places: 1 to 8" */
    private static void addCarLeastAndGreatestPlaces() {
        addCar(0, 15, 1, 0);
        addCar(0, 15, 0, Check.INVALID);
        addCar(0, 15, 8, 0);
        addCar(0, 15, 9, Check.INVALID);
        addCar(0, 15, Integer.MIN_VALUE, Check.INVALID);
        addCar(0, 15, Integer.MAX_VALUE, Check.INVALID);
    }

    private static void addCar(int lowest, int highest, int places, int due) {
        String call = "addCar(" + lowest + ", " + highest + ", " + places + ")";
        GoalLifts lifts = new GoalLifts();
        CHECK.due(call, lifts.addCar(lowest, highest, places), due);
        CHECK.due("cars after " + call, lifts.count(2), due == 0 ? 1 : 0);
        CHECK.due("states after " + call, lifts.count(13), due == 0 ? 1 : 0);
    }

    /** "Returns its number", "CAPACITY_EXCEEDED if there are 5" */
    private static void addCarFive() {
        GoalLifts lifts = new GoalLifts();
        for (int car = 0; car < 5; car++) {
            CHECK.due("number of the car", lifts.addCar(car, car + 1, 1), car);
            CHECK.due("cars", lifts.count(2), car + 1);
        }
        CHECK.due("a sixth car", lifts.addCar(0, 1, 1), Check.CAPACITY);
        CHECK.due("cars", lifts.count(2), 5);
        CHECK.due("car(4, 0)", lifts.car(4, 0), 4);
        CHECK.due("car(5, 0)", lifts.car(5, 0), Check.INVALID);
        for (int car = 0; car < 5; car++) {
            lifts.fail(car);
        }
        CHECK.due("failed cars are cars", lifts.addCar(0, 1, 1), Check.CAPACITY);
    }

    /** INVALID_ARGUMENT is listed ahead of CAPACITY_EXCEEDED. */
    private static void addCarWrongOfFive() {
        int[][] wrong = {{-1, 1, 1}, {0, 16, 1}, {3, 3, 1}, {4, 3, 1}, {0, 1, 0}, {0, 1, 9}};
        for (int[] w : wrong) {
            CHECK.due("addCar(" + w[0] + ", " + w[1] + ", " + w[2] + ") with five",
                Houses.withFive(1).addCar(w[0], w[1], w[2]), Check.INVALID);
        }
    }

    /** A car that is undone makes room for another one, which is new. */
    private static void addCarAfterUndo() {
        GoalLifts lifts = Houses.withFive(8);
        lifts.undo();
        CHECK.due("cars", lifts.count(2), 4);
        CHECK.due("the fifth is none", lifts.car(4, 0), Check.INVALID);
        CHECK.due("another fifth", lifts.addCar(9, 11, 1), 4);
        CHECK.due("its floor", lifts.car(4, 0), 9);
        CHECK.due("its zone", lifts.cost(4, 0, 15), Check.NONE);
    }

    /** "hour: 0 to 23" */
    private static void setAwakeLeastAndGreatestHour() {
        setAwake(0, 3, 5);
        setAwake(-1, 3, Check.INVALID);
        setAwake(23, 3, 5);
        setAwake(24, 3, Check.INVALID);
        setAwake(Integer.MIN_VALUE, 3, Check.INVALID);
        setAwake(Integer.MAX_VALUE, 3, Check.INVALID);
    }

    /** "cars: 1 to 5" */
    private static void setAwakeLeastAndGreatestCars() {
        setAwake(7, 1, 5);
        setAwake(7, 0, Check.INVALID);
        setAwake(7, 5, 5);
        setAwake(7, 6, Check.INVALID);
        setAwake(7, Integer.MIN_VALUE, Check.INVALID);
        setAwake(7, Integer.MAX_VALUE, Check.INVALID);
    }

    private static void setAwake(int hour, int cars, int due) {
        String call = "setAwake(" + hour + ", " + cars + ")";
        GoalLifts lifts = new GoalLifts();
        CHECK.due(call, lifts.setAwake(hour, cars), due);
        CHECK.due("states after " + call, lifts.count(13), due == 5 ? 1 : 0);
        for (int h = 0; h < 24; h++) {
            CHECK.due("hour " + h + " after " + call, lifts.setAwake(h, 1), due == 5 && h == hour ? cars : 5);
        }
    }

    /** "Returns the previous number" of this hour, and no other hour changes. */
    private static void setAwakeOfAnHourIsItsOwn() {
        GoalLifts lifts = new GoalLifts();
        for (int hour = 0; hour < 24; hour++) {
            CHECK.due("at first", lifts.setAwake(hour, 1 + hour % 5), 5);
        }
        for (int hour = 23; hour >= 0; hour--) {
            CHECK.due("then", lifts.setAwake(hour, 5), 1 + hour % 5);
        }
    }

    /** The hour 23 is followed by the hour 0. */
    private static void setAwakeBehindHour23() {
        GoalLifts lifts = Houses.withFive(1);
        lifts.setAwake(23, 4);
        lifts.setAwake(0, 2);
        int[][] awake = {{0, 2}, {59, 2}, {60, 5}, {1379, 5}, {1380, 4}, {1439, 4}, {1440, 2}, {1499, 2}, {1500, 5}};
        for (int[] a : awake) {
            Houses.passTo(lifts, a[0]);
            for (int car = 0; car < 5; car++) {
                CHECK.due("car " + car + " at the tick " + a[0], lifts.car(car, 7), car < a[1] ? 1 : 0);
            }
        }
    }

    /** "car: a car" */
    private static void holdFirstAndLastCar() {
        GoalLifts lifts = Houses.withFive(1);
        CHECK.due("hold(-1, 1)", lifts.hold(-1, 1), Check.INVALID);
        CHECK.due("hold(5, 1)", lifts.hold(5, 1), Check.INVALID);
        CHECK.due("hold(0, 1)", lifts.hold(0, 1), 0);
        CHECK.due("hold(4, 1)", lifts.hold(4, 1), 0);
        int[] held = {1, 0, 0, 0, 1};
        for (int car = 0; car < 5; car++) {
            CHECK.due("car(" + car + ", 1)", lifts.car(car, 1), held[car]);
        }
        GoalLifts one = Houses.with(0, 15, 1);
        CHECK.due("hold(1, 1) with one car", one.hold(1, 1), Check.INVALID);
        CHECK.due("hold(0, -1)", one.hold(0, -1), Check.INVALID);
        CHECK.due("hold(0, 2)", one.hold(0, 2), Check.INVALID);
        CHECK.due("hold(0, 1)", one.hold(0, 1), 0);
        CHECK.due("hold(0, 0)", one.hold(0, 0), 0);
    }

    /** "the number of those who wait for it or ride in it": none */
    private static void holdNobody() {
        GoalLifts lifts = Houses.with(0, 9, 1, 0, 15, 1);
        lifts.call(9, 12);
        lifts.call(0, 3);
        CHECK.due("one waits for the other car", lifts.hold(0, 1), 1);
        lifts.hold(0, 0);
        lifts.pass(30);
        CHECK.due("who is there neither waits nor rides", lifts.hold(0, 1), 0);
    }

    private static void holdOneToForty() {
        GoalLifts lifts = Houses.call(Houses.with(0, 15, 8), 1, 0, 9);
        CHECK.due("one who waits", lifts.hold(0, 1), 1);
        lifts.hold(0, 0);
        lifts.pass(1);
        CHECK.due("one who rides", lifts.hold(0, 1), 1);
        lifts.hold(0, 0);
        Houses.call(lifts, 39, 9, 0);
        CHECK.due("forty", lifts.hold(0, 1), 40);
        CHECK.due("forty when it goes on", lifts.hold(0, 0), 40);
    }

    /** "ILLEGAL_STATE if [..] it is so already" */
    private static void holdSoAlready() {
        GoalLifts lifts = Houses.with(0, 15, 1);
        CHECK.due("hold(0, 0) of a new car", lifts.hold(0, 0), Check.STATE);
        CHECK.due("states", lifts.count(13), 1);
        lifts.hold(0, 1);
        CHECK.due("hold(0, 1) of a held car", lifts.hold(0, 1), Check.STATE);
        CHECK.due("held still", lifts.car(0, 1), 1);
        CHECK.due("states", lifts.count(13), 2);
        lifts.hold(0, 0);
        CHECK.due("hold(0, 0) of a car that goes on", lifts.hold(0, 0), Check.STATE);
    }

    /** "ILLEGAL_STATE if it has failed" */
    private static void holdFailed() {
        GoalLifts lifts = Houses.with(0, 15, 1);
        lifts.fail(0);
        CHECK.due("hold(0, 1)", lifts.hold(0, 1), Check.STATE);
        CHECK.due("hold(0, 0)", lifts.hold(0, 0), Check.STATE);
        CHECK.due("failed still", lifts.car(0, 1), 2);
        CHECK.due("states", lifts.count(13), 2);
        lifts.repair(0);
        CHECK.due("hold(0, 0) of a repaired car", lifts.hold(0, 0), Check.STATE);
        CHECK.due("hold(0, 1) of a repaired car", lifts.hold(0, 1), 0);
    }

    /** INVALID_ARGUMENT is listed ahead of ILLEGAL_STATE. */
    private static void holdWrongBeforeState() {
        GoalLifts lifts = Houses.with(0, 15, 1, 0, 15, 1);
        lifts.fail(0);
        lifts.hold(1, 1);
        for (int is : new int[] {-1, 2, Integer.MIN_VALUE, Integer.MAX_VALUE}) {
            CHECK.due("hold(0, " + is + ") of a failed car", lifts.hold(0, is), Check.INVALID);
            CHECK.due("hold(1, " + is + ") of a held car", lifts.hold(1, is), Check.INVALID);
            CHECK.due("hold(2, " + is + ") of no car", lifts.hold(2, is), Check.INVALID);
        }
    }

    /** "INVALID_ARGUMENT if there is no such car" */
    private static void failFirstAndLastCar() {
        GoalLifts lifts = Houses.withFive(1);
        CHECK.due("fail(-1)", lifts.fail(-1), Check.INVALID);
        CHECK.due("fail(5)", lifts.fail(5), Check.INVALID);
        CHECK.due("fail(0)", lifts.fail(0), 0);
        CHECK.due("fail(4)", lifts.fail(4), 0);
        int[] failed = {2, 0, 0, 0, 2};
        for (int car = 0; car < 5; car++) {
            CHECK.due("car(" + car + ", 1)", lifts.car(car, 1), failed[car]);
        }
        CHECK.due("fail(1) with one car", Houses.with(0, 15, 1).fail(1), Check.INVALID);
    }

    /** "the number of all callers who are looking then": none */
    private static void failNobody() {
        GoalLifts lifts = Houses.with(0, 15, 1, 0, 15, 1);
        lifts.call(0, 9);
        CHECK.due("no caller of this car", lifts.fail(1), 0);
        lifts.pass(10);
        CHECK.due("on the goal of the only caller", lifts.car(0, 0), 9);
        CHECK.due("who is there by the failure", lifts.fail(0), 0);
        CHECK.due("there", lifts.count(7), 1);
    }

    /** A full car, and those who are left to wait for it. */
    private static void failFull() {
        GoalLifts lifts = Houses.call(Houses.with(0, 15, 8), 9, 0, 15);
        lifts.pass(2);
        CHECK.due("eight who ride and one who waits", lifts.fail(0), 9);
        for (int caller = 0; caller < 9; caller++) {
            CHECK.due("floor of caller " + caller, lifts.caller(caller, 0), caller < 8 ? 1 : 0);
            CHECK.due("caller " + caller + " has no car", lifts.caller(caller, 3), Check.NONE);
        }
        CHECK.due("none rides", lifts.count(6), 0);
        CHECK.due("none waits", lifts.count(5), 0);
    }

    private static void failForty() {
        GoalLifts lifts = Houses.call(Houses.withFive(8), 40, 0, 15);
        lifts.pass(1);
        for (int car = 0; car < 5; car++) {
            CHECK.due("fail(" + car + ")", lifts.fail(car), 8 * car + 8);
        }
    }

    /** "ILLEGAL_STATE if it has failed already" */
    private static void failAlready() {
        GoalLifts lifts = Houses.with(0, 15, 1);
        lifts.call(0, 9);
        lifts.fail(0);
        CHECK.due("fail(0) again", lifts.fail(0), Check.STATE);
        CHECK.due("states", lifts.count(13), 3);
        lifts.repair(0);
        CHECK.due("fail(0) of a repaired car", lifts.fail(0), 1);
    }

    /** At the tick 20000 no tick can go by, but a car can fail on a goal. */
    private static void failAtTheLastTick() {
        GoalLifts lifts = Houses.passTo(Houses.with(0, 15, 1), 19998);
        lifts.call(0, 1);
        lifts.pass(2);
        CHECK.due("pass(1)", lifts.pass(1), Check.STATE);
        CHECK.due("fail(0)", lifts.fail(0), 0);
        CHECK.due("there in the tick", lifts.caller(0, 6), 20000);
        CHECK.due("rode since", lifts.caller(0, 5), 19998);
    }

    /** "INVALID_ARGUMENT if there is no such car" */
    private static void repairFirstAndLastCar() {
        GoalLifts lifts = Houses.with(0, 15, 1, 3, 15, 1, 6, 15, 1, 9, 15, 1, 14, 15, 1);
        lifts.fail(0);
        lifts.fail(4);
        CHECK.due("repair(-1)", lifts.repair(-1), Check.INVALID);
        CHECK.due("repair(5)", lifts.repair(5), Check.INVALID);
        CHECK.due("repair(0), on the lowest floor", lifts.repair(0), 0);
        CHECK.due("repair(4)", lifts.repair(4), 14);
        CHECK.due("failed cars", lifts.count(12), 0);
        GoalLifts high = Houses.with(0, 15, 1);
        high.call(15, 0);
        high.pass(15);
        high.fail(0);
        CHECK.due("repair(0), on the highest floor", high.repair(0), 15);
        CHECK.due("repair(1) with one car", high.repair(1), Check.INVALID);
    }

    /** "ILLEGAL_STATE if it has not failed" */
    private static void repairNotFailed() {
        GoalLifts lifts = Houses.with(0, 15, 1);
        CHECK.due("of a ready car", lifts.repair(0), Check.STATE);
        lifts.hold(0, 1);
        CHECK.due("of a held car", lifts.repair(0), Check.STATE);
        CHECK.due("held still", lifts.car(0, 1), 1);
        lifts.fail(0);
        lifts.repair(0);
        CHECK.due("of a repaired car", lifts.repair(0), Check.STATE);
        CHECK.due("states", lifts.count(13), 4);
    }

    /** "it is ready then, on the same floor", also if it was held when it failed */
    private static void repairIsReadyNotHeld() {
        GoalLifts lifts = Houses.with(0, 15, 1);
        lifts.call(9, 0);
        lifts.pass(4);
        lifts.hold(0, 1);
        lifts.fail(0);
        CHECK.due("held cars", lifts.count(11), 0);
        lifts.pass(200);
        CHECK.due("repair(0)", lifts.repair(0), 4);
        CHECK.due("ready", lifts.car(0, 1), 0);
        CHECK.due("its floor", lifts.car(0, 0), 4);
        CHECK.due("the floors travelled stay", lifts.car(0, 6), 4);
        CHECK.due("it can be given at once", lifts.would(9, 0), 0);
        CHECK.due("but is not", lifts.caller(0, 2), 0);
    }
}
