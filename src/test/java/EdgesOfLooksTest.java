/** The edges of promises 10 to 13: count, car, caller, group. */
public final class EdgesOfLooksTest {
    private static final Check CHECK = new Check();

    public static void main(String[] args) {
        countLeastAndGreatest();
        countOfNothing();
        countOfAll();
        carLeastAndGreatest();
        carAim();
        carFull();
        carAwakeNow();
        callerLeastAndGreatest();
        callerWithoutCar();
        callerBrought();
        callerTicksAtZero();
        callerRodeBefore();
        callerGivenOften();
        groupLeastAndGreatest();
        groupNotSoMany();
        groupWrongBeforeNone();
        groupOfForty();
        CHECK.end("EdgesOfLooksTest");
    }

    /** "INVALID_ARGUMENT if what is out of range": 0 to 13 are in it */
    private static void countLeastAndGreatest() {
        GoalLifts lifts = Houses.busy();
        CHECK.due("count(-1)", lifts.count(-1), Check.INVALID);
        CHECK.due("count(0)", lifts.count(0), 65);
        CHECK.due("count(13)", lifts.count(13), 5);
        CHECK.due("count(14)", lifts.count(14), Check.INVALID);
        CHECK.due("count(least)", lifts.count(Integer.MIN_VALUE), Check.INVALID);
        CHECK.due("count(greatest)", lifts.count(Integer.MAX_VALUE), Check.INVALID);
    }

    private static void countOfNothing() {
        GoalLifts lifts = new GoalLifts();
        for (int what = 0; what <= 13; what++) {
            CHECK.due("count(" + what + ") of a new object", lifts.count(what), 0);
        }
        lifts.pass(200);
        for (int what = 0; what <= 13; what++) {
            int due = what == 0 ? 200 : what == 1 ? 3 : what == 13 ? 1 : 0;
            CHECK.due("count(" + what + ") of a house where only time went by", lifts.count(what), due);
        }
    }

    private static void countOfAll() {
        GoalLifts lifts = Houses.full();
        // Five cars went from 0 to 3 and on to 9, and stopped on both.
        int[] due = {20000, 21, 5, 40, 0, 0, 0, 40, 0, 45, 10, 1, 4, 5};
        for (int what = 0; what <= 13; what++) {
            CHECK.due("count(" + what + ") of a full house", lifts.count(what), due[what]);
        }
        GoalLifts looking = Houses.call(new GoalLifts(), 40, 0, 1);
        CHECK.due("forty are looking", looking.count(4), 40);
        GoalLifts waiting = Houses.call(Houses.withFive(8), 40, 0, 1);
        CHECK.due("forty wait", waiting.count(5), 40);
        waiting.pass(1);
        CHECK.due("forty ride", waiting.count(6), 40);
        CHECK.due("none waits", waiting.count(5), 0);
    }

    /** "INVALID_ARGUMENT if there is no such car or what is out of range" */
    private static void carLeastAndGreatest() {
        GoalLifts lifts = Houses.with(2, 3, 1, 4, 5, 1, 6, 7, 1, 8, 9, 1, 14, 15, 1);
        CHECK.due("car(-1, 0)", lifts.car(-1, 0), Check.INVALID);
        CHECK.due("car(0, 0)", lifts.car(0, 0), 2);
        CHECK.due("car(4, 0)", lifts.car(4, 0), 14);
        CHECK.due("car(5, 0)", lifts.car(5, 0), Check.INVALID);
        CHECK.due("car(0, -1)", lifts.car(0, -1), Check.INVALID);
        CHECK.due("car(0, 7)", lifts.car(0, 7), 1);
        CHECK.due("car(0, 8)", lifts.car(0, 8), Check.INVALID);
        CHECK.due("car(4, -1)", lifts.car(4, -1), Check.INVALID);
        CHECK.due("car(4, 8)", lifts.car(4, 8), Check.INVALID);
        CHECK.due("car(5, 8)", lifts.car(5, 8), Check.INVALID);
        GoalLifts one = Houses.with(2, 3, 1);
        CHECK.due("car(0, 0) of one", one.car(0, 0), 2);
        CHECK.due("car(1, 0) of one", one.car(1, 0), Check.INVALID);
    }

    /** "its aim as a tick begins (NONE without one, be it ready or not)" */
    private static void carAim() {
        GoalLifts lifts = Houses.with(3, 9, 2);
        CHECK.due("without callers", lifts.car(0, 5), Check.NONE);
        lifts.hold(0, 1);
        CHECK.due("held without callers", lifts.car(0, 5), Check.NONE);
        lifts.call(3, 9);
        CHECK.due("held with one who is looking", lifts.car(0, 5), Check.NONE);
        lifts.hold(0, 0);
        CHECK.due("who is looking has no car yet", lifts.car(0, 5), Check.NONE);
        lifts.pass(1);
        CHECK.due("with one who rides", lifts.car(0, 5), 9);
        lifts.hold(0, 1);
        CHECK.due("held with one who rides", lifts.car(0, 5), 9);
        lifts.hold(0, 0);
        lifts.setAwake(0, 1);
        CHECK.due("when all are there", lifts.pass(20) * 10 + (lifts.car(0, 5) == Check.NONE ? 1 : 0), 11);
        lifts.call(9, 8);
        CHECK.due("the floor on which it is", lifts.car(0, 5), 9);
        lifts.fail(0);
        CHECK.due("failed", lifts.car(0, 5), Check.NONE);
        lifts.repair(0);
        CHECK.due("repaired", lifts.car(0, 5), Check.NONE);
        GoalLifts ground = Houses.with(0, 9, 2);
        ground.call(0, 9);
        CHECK.due("the floor 0", ground.car(0, 5), 0);
    }

    private static void carFull() {
        GoalLifts lifts = Houses.call(Houses.with(0, 15, 8), 40, 0, 15);
        CHECK.due("forty wait", lifts.car(0, 3), 40);
        CHECK.due("none rides", lifts.car(0, 2), 0);
        lifts.pass(1);
        CHECK.due("eight ride", lifts.car(0, 2), 8);
        CHECK.due("the others wait", lifts.car(0, 3), 32);
        CHECK.due("stops on 0 and 15", lifts.car(0, 4), 2);
        Houses.passTo(lifts, 16);
        CHECK.due("travelled", lifts.car(0, 6), 15);
        lifts.pass(1);
        CHECK.due("none rides", lifts.car(0, 2), 0);
        CHECK.due("the aim is the floor of the next eight", lifts.car(0, 5), 0);
    }

    /** "1 if it is awake now and 0 if not", be it ready or not */
    private static void carAwakeNow() {
        GoalLifts lifts = Houses.with(0, 15, 1, 0, 15, 1);
        lifts.setAwake(1, 1);
        lifts.hold(0, 1);
        lifts.fail(1);
        CHECK.due("held, in the hour 0", lifts.car(0, 7), 1);
        CHECK.due("failed, in the hour 0", lifts.car(1, 7), 1);
        lifts.pass(59);
        CHECK.due("at the tick 59", lifts.car(1, 7), 1);
        lifts.pass(1);
        CHECK.due("at the tick 60", lifts.car(1, 7), 0);
        CHECK.due("the other", lifts.car(0, 7), 1);
        lifts.pass(59);
        CHECK.due("at the tick 119", lifts.car(1, 7), 0);
        lifts.pass(1);
        CHECK.due("at the tick 120", lifts.car(1, 7), 1);
    }

    /** "INVALID_ARGUMENT if there is no such caller or what is out of range" */
    private static void callerLeastAndGreatest() {
        GoalLifts lifts = Houses.call(new GoalLifts(), 39, 3, 4);
        CHECK.due("caller(39, 0) of 39", lifts.caller(39, 0), Check.INVALID);
        lifts.call(5, 6);
        CHECK.due("caller(-1, 0)", lifts.caller(-1, 0), Check.INVALID);
        CHECK.due("caller(0, 0)", lifts.caller(0, 0), 3);
        CHECK.due("caller(39, 0)", lifts.caller(39, 0), 5);
        CHECK.due("caller(40, 0)", lifts.caller(40, 0), Check.INVALID);
        CHECK.due("caller(0, -1)", lifts.caller(0, -1), Check.INVALID);
        CHECK.due("caller(0, 7)", lifts.caller(0, 7), 0);
        CHECK.due("caller(0, 8)", lifts.caller(0, 8), Check.INVALID);
        CHECK.due("caller(39, -1)", lifts.caller(39, -1), Check.INVALID);
        CHECK.due("caller(39, 8)", lifts.caller(39, 8), Check.INVALID);
        CHECK.due("caller(40, 8)", lifts.caller(40, 8), Check.INVALID);
    }

    /** "NONE if looking", "NONE for 5 and 6 if this was not" */
    private static void callerWithoutCar() {
        GoalLifts lifts = Houses.with(0, 9, 1);
        lifts.call(0, 10);
        lifts.call(0, 9);
        CHECK.due("the car of one who is looking", lifts.caller(0, 3), Check.NONE);
        CHECK.due("the car of one who waits", lifts.caller(1, 3), 0);
        for (int caller = 0; caller < 2; caller++) {
            CHECK.due("the ride of " + caller, lifts.caller(caller, 5), Check.NONE);
            CHECK.due("there of " + caller, lifts.caller(caller, 6), Check.NONE);
            CHECK.due("given of " + caller, lifts.caller(caller, 7), caller);
        }
        lifts.pass(1);
        CHECK.due("the ride of one who rides", lifts.caller(1, 5), 0);
        CHECK.due("there of one who rides", lifts.caller(1, 6), Check.NONE);
    }

    /** "the one that brought the caller there", also after this car has failed */
    private static void callerBrought() {
        GoalLifts lifts = Houses.with(0, 1, 1, 0, 15, 1);
        lifts.call(0, 3);
        lifts.pass(200);
        CHECK.due("the car that brought", lifts.caller(0, 3), 1);
        CHECK.due("the floor of the call", lifts.caller(0, 0), 0);
        lifts.fail(1);
        CHECK.due("the car that brought and failed since", lifts.caller(0, 3), 1);
        CHECK.due("the floor of the call", lifts.caller(0, 0), 0);
        CHECK.due("there", lifts.caller(0, 6), 4);
    }

    /** The ticks are those as which they were called when it was done: 0 is one of them. */
    private static void callerTicksAtZero() {
        GoalLifts lifts = Houses.with(0, 15, 1);
        lifts.call(0, 1);
        lifts.pass(3);
        CHECK.due("the call", lifts.caller(0, 4), 0);
        CHECK.due("the ride", lifts.caller(0, 5), 0);
        CHECK.due("there", lifts.caller(0, 6), 2);
        CHECK.due("the tick now", lifts.count(0), 3);
        GoalLifts last = Houses.passTo(Houses.with(0, 15, 1), 19997);
        last.call(0, 1);
        last.pass(3);
        CHECK.due("the call", last.caller(0, 4), 19997);
        CHECK.due("the ride", last.caller(0, 5), 19997);
        CHECK.due("there", last.caller(0, 6), 19999);
    }

    /** "the tick in which the caller began to ride last, also if the car has failed since" */
    private static void callerRodeBefore() {
        GoalLifts lifts = Houses.with(0, 15, 1, 0, 15, 1);
        lifts.call(0, 9);
        lifts.pass(3);
        lifts.fail(0);
        CHECK.due("looking", lifts.caller(0, 5), 0);
        lifts.pass(1);
        CHECK.due("waiting for another", lifts.caller(0, 2) * 10 + lifts.caller(0, 5), 10);
        lifts.pass(1);
        CHECK.due("the other has come, but not stopped", lifts.caller(0, 5), 0);
        lifts.pass(1);
        CHECK.due("riding again", lifts.caller(0, 5), 5);
        CHECK.due("the floor of the car that failed", lifts.caller(0, 0), 2);
    }

    /** "how often the caller was given a car" */
    private static void callerGivenOften() {
        GoalLifts lifts = Houses.with(0, 15, 1);
        lifts.call(9, 0);
        for (int times = 1; times <= 20; times++) {
            CHECK.due("given", lifts.caller(0, 7), times);
            lifts.fail(0);
            CHECK.due("given, and looking then", lifts.caller(0, 7), times);
            lifts.pass(1);
            CHECK.due("not given without a car", lifts.caller(0, 7), times);
            lifts.repair(0);
            lifts.pass(1);
        }
    }

    /** "INVALID_ARGUMENT if index is negative or what is out of range" */
    private static void groupLeastAndGreatest() {
        GoalLifts lifts = Houses.call(new GoalLifts(), 3, 4, 5);
        CHECK.due("group(-1, 0)", lifts.group(-1, 0), Check.INVALID);
        CHECK.due("group(least, 0)", lifts.group(Integer.MIN_VALUE, 0), Check.INVALID);
        CHECK.due("group(0, -1)", lifts.group(0, -1), Check.INVALID);
        CHECK.due("group(0, 0)", lifts.group(0, 0), 4);
        CHECK.due("group(0, 1)", lifts.group(0, 1), 5);
        CHECK.due("group(0, 2)", lifts.group(0, 2), 3);
        CHECK.due("group(0, 3)", lifts.group(0, 3), 0);
        CHECK.due("group(0, 4)", lifts.group(0, 4), Check.INVALID);
    }

    /** "NONE if there are not so many groups" */
    private static void groupNotSoMany() {
        GoalLifts lifts = new GoalLifts();
        for (int groups = 0; groups <= 15; groups++) {
            for (int what = 0; what <= 3; what++) {
                CHECK.due("group(" + groups + ", " + what + ")", lifts.group(groups, what), Check.NONE);
            }
            if (groups > 0) {
                CHECK.due("the last group", lifts.group(groups - 1, 3), groups - 1);
            }
            lifts.call(groups, (groups + 1) % 16);
        }
        CHECK.due("group(greatest, 0)", lifts.group(Integer.MAX_VALUE, 0), Check.NONE);
    }

    /** "NONE is no error, and it is returned only if no error condition applies." */
    private static void groupWrongBeforeNone() {
        GoalLifts lifts = new GoalLifts();
        CHECK.due("group(0, -1) without groups", lifts.group(0, -1), Check.INVALID);
        CHECK.due("group(0, 4) without groups", lifts.group(0, 4), Check.INVALID);
        CHECK.due("group(-1, 0) without groups", lifts.group(-1, 0), Check.INVALID);
        CHECK.due("group(greatest, 4)", lifts.group(Integer.MAX_VALUE, 4), Check.INVALID);
    }

    private static void groupOfForty() {
        GoalLifts lifts = Houses.call(new GoalLifts(), 40, 15, 0);
        CHECK.due("groups", lifts.count(8), 1);
        CHECK.due("callers of it", lifts.group(0, 2), 40);
        CHECK.due("group(1, 2)", lifts.group(1, 2), Check.NONE);
    }
}
