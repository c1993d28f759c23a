import java.util.ArrayList;
import java.util.List;
import java.util.function.Consumer;
import java.util.function.Supplier;
import java.util.function.ToIntFunction;

/** Compares answers with those that are due, prints each that differs, and ends with exit code 1. */
final class Check {
    static final int INVALID = -1;
    static final int STATE = -2;
    static final int CAPACITY = -3;
    static final int NONE = -9;

    private int checks;
    private int wrong;

    void due(String what, long got, long want) {
        checks++;
        if (got != want) {
            wrong++;
            System.out.println(what + " answered " + got + ", due is " + want);
        }
    }

    void dueAll(String what, List<Integer> got, List<Integer> want) {
        checks++;
        if (!got.equals(want)) {
            wrong++;
            System.out.println(what + " are " + got + ", due are " + want);
        }
    }

    /** The call is to answer with the code, and to leave all as it was, the history too. */
    void refused(String what, Supplier<GoalLifts> maker, ToIntFunction<GoalLifts> call, int code) {
        due(what, call.applyAsInt(maker.get()), code);
        changesNothing(what, maker, lifts -> call.applyAsInt(lifts));
    }

    /** All that can be seen is to be the same with the calls as without them. */
    void changesNothing(String what, Supplier<GoalLifts> maker, Consumer<GoalLifts> calls) {
        GoalLifts untouched = maker.get();
        GoalLifts touched = maker.get();
        calls.accept(touched);
        dueAll("seen after " + what, seen(touched), seen(untouched));
        int left = untouched.undo();
        due("undo() after " + what, touched.undo(), left);
        dueAll("seen after undo() after " + what, seen(touched), seen(untouched));
    }

    /** All that the looking methods tell. */
    static List<Integer> seen(GoalLifts lifts) {
        List<Integer> all = new ArrayList<>();
        for (int what = 0; what <= 13; what++) {
            all.add(lifts.count(what));
        }
        for (int car = 0; car < lifts.count(2); car++) {
            for (int what = 0; what <= 7; what++) {
                all.add(lifts.car(car, what));
            }
        }
        for (int caller = 0; caller < lifts.count(3); caller++) {
            for (int what = 0; what <= 7; what++) {
                all.add(lifts.caller(caller, what));
            }
            all.add(lifts.thereIn(caller));
        }
        for (int group = 0; group < lifts.count(8); group++) {
            for (int what = 0; what <= 3; what++) {
                all.add(lifts.group(group, what));
            }
        }
        return all;
    }

    void end(String name) {
        System.out.println(name + ": " + checks + " checks, " + wrong + " wrong");
        if (wrong != 0) {
            System.exit(1);
        }
    }
}
