import java.util.Random;

/**
 * All promises: runs of at most 512 calls, each answer compared with that of the model. The runs are
 * the same each time; some favour callers, some cars that fail, some wrong arguments, some long times.
 */
public final class RandomRunsTest {
    private static final int RUNS = 400;
    private static final int CALLS = 512;
    private static final int[] WILD = {Integer.MIN_VALUE, Integer.MAX_VALUE, -1, -9, 16, 40, 41, 201, 512};

    private final Check check;
    private final Random random;
    private final GoalLifts lifts = new GoalLifts();
    private final Model model = new Model();
    private final int wildness;
    private final int passes;
    private final int longest;
    private final int breaks;
    private final String name;
    private boolean failed;

    private RandomRunsTest(Check check, int seed) {
        this.check = check;
        random = new Random(seed);
        wildness = seed % 5 == 0 ? 12 : 200;
        passes = 1 + seed % 7;
        longest = seed % 3 == 0 ? 200 : seed % 3 == 1 ? 30 : 4;
        breaks = seed % 4 == 0 ? 6 : 1;
        name = "run " + seed;
    }

    public static void main(String[] args) {
        Check check = new Check();
        for (int seed = 0; seed < RUNS; seed++) {
            new RandomRunsTest(check, seed).run();
        }
        check.end("RandomRunsTest");
    }

    private void run() {
        for (int i = 0; i < CALLS && !failed; i++) {
            if (random.nextInt(3) == 0) {
                act();
            } else if (random.nextInt(4) == 0) {
                askWhatCouldBe();
            } else {
                look();
            }
        }
    }

    private int any(int from, int to) {
        if (random.nextInt(wildness) == 0) {
            return random.nextBoolean() ? WILD[random.nextInt(WILD.length)] : to + 1;
        }
        return from + random.nextInt(to - from + 1);
    }

    private int anyCar() {
        return any(0, Math.max(0, model.count(2) - 1));
    }

    private int anyCaller() {
        return any(0, Math.max(0, model.count(3) - 1));
    }

    private void same(String what, int got, int want) {
        check.due(name + ": " + what, got, want);
        failed |= got != want;
    }

    private void act() {
        int choice = random.nextInt(13 + passes + breaks);
        if (choice < 2 || model.count(2) == 0 && choice < 6) {
            int a = any(0, 13);
            int b = any(Math.max(0, Math.min(a, 13)) + 1, 15);
            int c = any(1, random.nextBoolean() ? 2 : 8);
            same("addCar(" + a + ", " + b + ", " + c + ")", lifts.addCar(a, b, c), model.addCar(a, b, c));
        } else if (choice < 4) {
            int a = random.nextBoolean() ? model.count(1) : any(0, 23);
            int b = any(1, 5);
            same("setAwake(" + a + ", " + b + ")", lifts.setAwake(a, b), model.setAwake(a, b));
        } else if (choice < 11) {
            int a = any(0, 15);
            int b = any(0, 15);
            same("call(" + a + ", " + b + ")", lifts.call(a, b), model.call(a, b));
        } else if (choice < 12) {
            same("undo()", lifts.undo(), model.undo());
        } else if (choice < 12 + passes) {
            int a = any(1, longest);
            same("pass(" + a + ")", lifts.pass(a), model.pass(a));
        } else {
            breakOrMend(anyCar());
        }
    }

    private void breakOrMend(int car) {
        switch (random.nextInt(4)) {
            case 0 -> same("hold(" + car + ", 0)", lifts.hold(car, 0), model.hold(car, 0));
            case 1 -> {
                int is = any(0, 1);
                same("hold(" + car + ", " + is + ")", lifts.hold(car, is), model.hold(car, is));
            }
            case 2 -> same("fail(" + car + ")", lifts.fail(car), model.fail(car));
            default -> same("repair(" + car + ")", lifts.repair(car), model.repair(car));
        }
    }

    private void look() {
        int what = any(0, 7);
        switch (random.nextInt(4)) {
            case 0 -> {
                int number = any(0, 13);
                same("count(" + number + ")", lifts.count(number), model.count(number));
            }
            case 1 -> {
                int car = anyCar();
                same("car(" + car + ", " + what + ")", lifts.car(car, what), model.car(car, what));
            }
            case 2 -> {
                int caller = anyCaller();
                same("caller(" + caller + ", " + what + ")", lifts.caller(caller, what),
                    model.caller(caller, what));
            }
            default -> {
                int index = any(0, model.count(8));
                int property = any(0, 3);
                same("group(" + index + ", " + property + ")", lifts.group(index, property),
                    model.group(index, property));
            }
        }
    }

    private void askWhatCouldBe() {
        int a = any(0, 15);
        int b = any(0, 15);
        switch (random.nextInt(5)) {
            case 0 -> {
                int car = anyCar();
                same("cost(" + car + ", " + a + ", " + b + ")", lifts.cost(car, a, b), model.cost(car, a, b));
            }
            case 1 -> same("would(" + a + ", " + b + ")", lifts.would(a, b), model.would(a, b));
            case 2 -> {
                int caller = anyCaller();
                same("thereIn(" + caller + ")", lifts.thereIn(caller), model.thereIn(caller));
            }
            case 3 -> {
                int what = any(0, 2);
                same("waits(" + what + ")", lifts.waits(what), model.waits(what));
            }
            default -> {
                int what = any(0, 1);
                same("worstCar(" + what + ")", lifts.worstCar(what), model.worstCar(what));
            }
        }
    }
}
