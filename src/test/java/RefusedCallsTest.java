import java.util.LinkedHashMap;
import java.util.Map;
import java.util.function.Supplier;
import java.util.function.ToIntFunction;

/**
 * "A call that returns an error code changes nothing. If several error conditions apply, the method
 * returns the one that its description lists first": each call that is refused, in houses of all kinds.
 */
public final class RefusedCallsTest {
    private static final Check CHECK = new Check();
    private static final int LEAST = Integer.MIN_VALUE;
    private static final int GREATEST = Integer.MAX_VALUE;
    private static final int[][] WRONG_WAYS = {{-1, 0}, {0, -1}, {16, 0}, {0, 16}, {0, 0}, {15, 15}, {-1, -1},
        {16, 16}, {LEAST, 0}, {0, LEAST}, {GREATEST, 0}, {0, GREATEST}};
    private static final int[][] WRONG_CARS = {{-1, 1, 1}, {15, 15, 1}, {15, 16, 1}, {0, 0, 1}, {1, 0, 1},
        {0, 16, 1}, {0, 1, 0}, {0, 1, 9}, {LEAST, 1, 1}, {0, GREATEST, 1}, {0, 1, LEAST}, {0, 1, GREATEST},
        {GREATEST, LEAST, 1}};
    private static final int[][] WRONG_HOURS = {{-1, 1}, {24, 1}, {0, 0}, {0, 6}, {-1, 0}, {24, 6}, {LEAST, 1},
        {GREATEST, 1}, {0, LEAST}, {0, GREATEST}};

    public static void main(String[] args) {
        Map<String, Supplier<GoalLifts>> houses = new LinkedHashMap<>();
        houses.put("a new house", GoalLifts::new);
        houses.put("a busy house", Houses::busy);
        houses.put("a busy house without history", () -> Houses.undoAll(Houses.busy()));
        houses.put("a full house", Houses::full);
        houses.put("forty who wait", () -> Houses.call(Houses.withFive(1), 40, 2, 7));
        houses.forEach((name, house) -> wrongArguments(name, house));
        wrongStates();
        noRoom();
        CHECK.end("RefusedCallsTest");
    }

    private static void refused(String call, Supplier<GoalLifts> house, ToIntFunction<GoalLifts> ask, int code) {
        CHECK.refused(call, house, ask, code);
    }

    /** INVALID_ARGUMENT is listed first by every method, so no state of the house matters. */
    private static void wrongArguments(String in, Supplier<GoalLifts> house) {
        for (int[] w : WRONG_CARS) {
            String call = "addCar(" + w[0] + ", " + w[1] + ", " + w[2] + ") in " + in;
            refused(call, house, l -> l.addCar(w[0], w[1], w[2]), Check.INVALID);
        }
        for (int[] w : WRONG_HOURS) {
            refused("setAwake(" + w[0] + ", " + w[1] + ") in " + in, house, l -> l.setAwake(w[0], w[1]), Check.INVALID);
        }
        for (int[] w : WRONG_WAYS) {
            String way = "(" + w[0] + ", " + w[1] + ") in " + in;
            refused("call" + way, house, l -> l.call(w[0], w[1]), Check.INVALID);
            refused("would" + way, house, l -> l.would(w[0], w[1]), Check.INVALID);
            refused("cost of car 0 " + way, house, l -> l.cost(0, w[0], w[1]), Check.INVALID);
        }
        for (int ticks : new int[] {0, -1, 201, LEAST, GREATEST}) {
            refused("pass(" + ticks + ") in " + in, house, l -> l.pass(ticks), Check.INVALID);
        }
        wrongNumbers(in, house);
        wrongWhats(in, house);
    }

    private static void wrongNumbers(String in, Supplier<GoalLifts> house) {
        for (int car : new int[] {-1, house.get().count(2), 5, LEAST, GREATEST}) {
            for (int is : new int[] {0, 1, -1, 2}) {
                refused("hold(" + car + ", " + is + ") in " + in, house, l -> l.hold(car, is), Check.INVALID);
            }
            refused("fail(" + car + ") in " + in, house, l -> l.fail(car), Check.INVALID);
            refused("repair(" + car + ") in " + in, house, l -> l.repair(car), Check.INVALID);
            refused("car(" + car + ", 0) in " + in, house, l -> l.car(car, 0), Check.INVALID);
            refused("cost(" + car + ", 0, 1) in " + in, house, l -> l.cost(car, 0, 1), Check.INVALID);
        }
        for (int caller : new int[] {-1, house.get().count(3), 40, LEAST, GREATEST}) {
            refused("caller(" + caller + ", 0) in " + in, house, l -> l.caller(caller, 0), Check.INVALID);
            refused("thereIn(" + caller + ") in " + in, house, l -> l.thereIn(caller), Check.INVALID);
        }
        for (int index : new int[] {-1, LEAST}) {
            refused("group(" + index + ", 0) in " + in, house, l -> l.group(index, 0), Check.INVALID);
        }
    }

    private static void wrongWhats(String in, Supplier<GoalLifts> house) {
        for (int what : new int[] {-1, 14, LEAST, GREATEST}) {
            refused("count(" + what + ") in " + in, house, l -> l.count(what), Check.INVALID);
        }
        for (int what : new int[] {-1, 8, LEAST, GREATEST}) {
            refused("car(0, " + what + ") in " + in, house, l -> l.car(0, what), Check.INVALID);
            refused("caller(0, " + what + ") in " + in, house, l -> l.caller(0, what), Check.INVALID);
        }
        for (int what : new int[] {-1, 4, LEAST, GREATEST}) {
            refused("group(0, " + what + ") in " + in, house, l -> l.group(0, what), Check.INVALID);
            refused("group(99, " + what + ") in " + in, house, l -> l.group(99, what), Check.INVALID);
        }
        for (int what : new int[] {-1, 3, LEAST, GREATEST}) {
            refused("waits(" + what + ") in " + in, house, l -> l.waits(what), Check.INVALID);
        }
        for (int what : new int[] {-1, 2, LEAST, GREATEST}) {
            refused("worstCar(" + what + ") in " + in, house, l -> l.worstCar(what), Check.INVALID);
        }
        for (int is : new int[] {-1, 2, LEAST, GREATEST}) {
            refused("hold(0, " + is + ") in " + in, house, l -> l.hold(0, is), Check.INVALID);
        }
    }

    private static void wrongStates() {
        refused("hold(0, 0) of a ready car", Houses::busy, l -> l.hold(0, 0), Check.STATE);
        refused("hold(1, 1) of a held car", Houses::busy, l -> l.hold(1, 1), Check.STATE);
        refused("hold(2, 0) of a failed car", Houses::busy, l -> l.hold(2, 0), Check.STATE);
        refused("hold(2, 1) of a failed car", Houses::busy, l -> l.hold(2, 1), Check.STATE);
        refused("fail(2) of a failed car", Houses::busy, l -> l.fail(2), Check.STATE);
        refused("repair(0) of a ready car", Houses::busy, l -> l.repair(0), Check.STATE);
        refused("repair(1) of a held car", Houses::busy, l -> l.repair(1), Check.STATE);
        refused("undo() of a new house", GoalLifts::new, l -> l.undo(), Check.STATE);
        refused("undo() without history", () -> Houses.undoAll(Houses.busy()), l -> l.undo(), Check.STATE);
        for (int ticks : new int[] {1, 2, 199, 200}) {
            refused("pass(" + ticks + ") at the tick 20000", Houses::full, l -> l.pass(ticks), Check.STATE);
        }
        Supplier<GoalLifts> late = () -> Houses.passTo(Houses.call(Houses.with(0, 9, 1), 9, 5, 2), 19801);
        refused("pass(200) at the tick 19801", late, l -> l.pass(200), Check.STATE);
    }

    private static void noRoom() {
        refused("addCar of five", Houses::full, l -> l.addCar(0, 15, 8), Check.CAPACITY);
        refused("call of forty", Houses::full, l -> l.call(0, 15), Check.CAPACITY);
        refused("call of forty who wait", () -> Houses.call(Houses.withFive(1), 40, 2, 7),
            l -> l.call(15, 0), Check.CAPACITY);
    }
}
