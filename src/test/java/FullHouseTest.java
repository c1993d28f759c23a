import java.util.List;

/** Five cars and forty callers, all rows in use: the sums are as due, and no call throws. */
public final class FullHouseTest {
    private static final Check CHECK = new Check();
    private static final int[] WILD = {Integer.MIN_VALUE, -10, -9, -3, -2, -1, 0, 1, 3, 4, 5, 7, 8, 13, 14, 15,
        16, 23, 24, 39, 40, 41, 200, 201, 20000, Integer.MAX_VALUE};

    public static void main(String[] args) {
        answers();
        oneCarForAll();
        wildArguments();
        CHECK.end("FullHouseTest");
    }

    private static GoalLifts full() {
        GoalLifts lifts = new GoalLifts();
        for (int car = 0; car < 5; car++) {
            lifts.addCar(0, 15, 8);
        }
        for (int caller = 0; caller < 40; caller++) {
            lifts.call(0, 15);
        }
        return lifts;
    }

    private static void answers() {
        GoalLifts lifts = full();
        for (int caller = 0; caller < 40; caller++) {
            CHECK.due("car of caller " + caller, lifts.caller(caller, 3), caller % 5);
        }
        CHECK.due("groups", lifts.count(8), 1);
        CHECK.due("callers of the group", lifts.group(0, 2), 40);
        CHECK.due("cost with eight others", lifts.cost(4, 3, 15), 3 + 2 * 3 + 8);
        CHECK.due("would", lifts.would(0, 15), 0);
        CHECK.due("thereIn(39)", lifts.thereIn(39), 17);
        CHECK.due("pass(1)", lifts.pass(1), 0);
        CHECK.due("all ride", lifts.count(6), 40);
        // The other cars go up full, let out, come back for two each, and go up again.
        CHECK.due("worstCar(0)", lifts.worstCar(0), 0);
        CHECK.due("worstCar(1)", lifts.worstCar(1), 48);
        CHECK.due("fail(4)", lifts.fail(4), 8);
        CHECK.due("stops of car 4", lifts.car(4, 4), 0);
        CHECK.due("the last caller", lifts.thereIn(39), 48);
        lifts.pass(1);
        CHECK.due("the first of car 4's callers", lifts.caller(4, 3), 0);
        CHECK.due("the last of car 4's callers", lifts.caller(39, 3), 3);
        CHECK.due("two wait for car 3", lifts.car(3, 3), 2);
        CHECK.due("the sum of the waits", lifts.waits(2), 8 * 2);
        CHECK.due("pass(15)", lifts.pass(15), 32);
        CHECK.due("pass(31)", lifts.pass(31), 32);
        CHECK.due("pass(1)", lifts.pass(1), 40);
        CHECK.due("the greatest wait", lifts.waits(0), 32);
        CHECK.due("who has it", lifts.waits(1), 4);
        CHECK.due("stops", lifts.count(10), 5 + 4 * 3);
        CHECK.due("travelled", lifts.count(9), 4 * 45);
    }

    private static void oneCarForAll() {
        GoalLifts lifts = full();
        for (int car = 0; car < 5; car++) {
            lifts.fail(car);
        }
        CHECK.due("all are looking", lifts.count(4), 40);
        lifts.repair(4);
        lifts.pass(1);
        CHECK.due("all who do not ride wait for car 4", lifts.car(4, 3), 32);
        CHECK.due("car 4 is full", lifts.car(4, 2), 8);
        CHECK.due("its cost", lifts.cost(4, 0, 15), 2 * 2 + 40);
        CHECK.due("hold(4, 1)", lifts.hold(4, 1), 40);
        CHECK.due("fail(4)", lifts.fail(4), 40);
    }

    private static void wildArguments() {
        List<Integer> before = Check.seen(full());
        GoalLifts lifts = full();
        for (int a : WILD) {
            lifts.count(a);
            lifts.thereIn(a);
            lifts.waits(a);
            lifts.worstCar(a);
            for (int b : WILD) {
                lifts.car(a, b);
                lifts.caller(a, b);
                lifts.group(a, b);
                lifts.would(a, b);
                for (int c : WILD) {
                    lifts.cost(a, b, c);
                    CHECK.due("addCar of five", lifts.addCar(a, b, c) < 0 ? 1 : 0, 1);
                }
                CHECK.due("call of forty", lifts.call(a, b) < 0 ? 1 : 0, 1);
            }
        }
        CHECK.dueAll("seen after wild arguments", Check.seen(lifts), before);
        for (int a : WILD) {
            lifts.pass(a);
            lifts.fail(a);
            lifts.repair(a);
            for (int b : WILD) {
                lifts.hold(a, b);
                lifts.setAwake(a, b);
            }
        }
        CHECK.due("cars and callers are as many", lifts.count(2) + lifts.count(3), 45);
    }
}
