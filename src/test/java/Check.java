import java.util.ArrayList;
import java.util.List;
import java.util.function.Consumer;
import java.util.function.Supplier;
import java.util.function.ToIntFunction;

/** Compares answers with those that are due, prints each that differs, and ends with exit code 1. */
final class Check {
    static final int INVALID = -1;
    static final int STATE = -2;
    static final int CAPACITY = -3;
    static final int NONE = -9;

    private int checks;
    private int wrong;

    void due(String what, long got, long want) {
        checks++;
        if (got != want) {
            wrong++;
            System.out.println(what + " answered " + got + ", due is " + want);
        }
    }

    void dueAll(String what, List<Integer> got, List<Integer> want) {
        checks++;
        if (!got.equals(want)) {
            wrong++;
            System.out.println(what + " are " + got + ", due are " + want);
        }
    }

    /** The call is to answer with the code, and to leave all as it was, the history too. */
    void refused(String what, Supplier<GoalLifts> maker, ToIntFunction<GoalLifts> call, int code) {
        due(what, call.applyAsInt(maker.get()), code);
        changesNothing(what, maker, lifts -> call.applyAsInt(lifts));
    }

    /**
     * All that can be seen is to be the same with the calls as without them: now, after each undo() of
     * the history, and in the numbers of cars that are awake.
     */
    void changesNothing(String what, Supplier<GoalLifts> maker, Consumer<GoalLifts> calls) {
        GoalLifts untouched = maker.get();
        GoalLifts touched = maker.get();
        calls.accept(touched);
        dueAll("seen after " + what, seen(touched), seen(untouched));
        for (int undone = 1; undone <= 6; undone++) {
            due("undo() " + undone + " after " + what, touched.undo(), untouched.undo());
            dueAll("counts after undo() " + undone + " after " + what, counts(touched), counts(untouched));
        }
        GoalLifts hours = maker.get();
        GoalLifts touchedHours = maker.get();
        calls.accept(touchedHours);
        for (int hour = 0; hour < 24; hour++) {
            due("hour " + hour + " after " + what, touchedHours.setAwake(hour, 1), hours.setAwake(hour, 1));
        }
    }

    private static List<Integer> counts(GoalLifts lifts) {
        List<Integer> all = new ArrayList<>();
        for (int what = 0; what <= 13; what++) {
            all.add(lifts.count(what));
        }
        return all;
    }

    /** All that the looking methods tell, the zones by the costs, the waits, and a forecast. */
    static List<Integer> seen(GoalLifts lifts) {
        List<Integer> all = counts(lifts);
        for (int car = 0; car < lifts.count(2); car++) {
            for (int what = 0; what <= 7; what++) {
                all.add(lifts.car(car, what));
            }
            for (int floor = 0; floor < 15; floor++) {
                all.add(lifts.cost(car, floor, floor + 1));
            }
        }
        for (int caller = 0; caller < lifts.count(3); caller++) {
            for (int what = 0; what <= 7; what++) {
                all.add(lifts.caller(caller, what));
            }
        }
        for (int group = 0; group < lifts.count(8); group++) {
            for (int what = 0; what <= 3; what++) {
                all.add(lifts.group(group, what));
            }
        }
        for (int what = 0; what <= 2; what++) {
            all.add(lifts.waits(what));
        }
        all.add(lifts.thereIn(lifts.count(3) - 1));
        return all;
    }

    void end(String name) {
        System.out.println(name + ": " + checks + " checks, " + wrong + " wrong");
        if (wrong != 0) {
            System.exit(1);
        }
    }
}
