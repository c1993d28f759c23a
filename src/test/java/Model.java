import java.util.ArrayDeque;
import java.util.ArrayList;
import java.util.Collections;
import java.util.Comparator;
import java.util.Deque;
import java.util.LinkedHashMap;
import java.util.List;
import java.util.Map;
import java.util.Set;
import java.util.TreeSet;

/** The document once more, written with objects and lists, to compare the class with. */
final class Model {
    private static final int INVALID = -1;
    private static final int STATE = -2;
    private static final int CAPACITY = -3;
    private static final int NONE = -9;

    private static final class Car {
        int number;
        int lowest;
        int highest;
        int places;
        int floor;
        int state;
        int travelled;
        int stops;
        List<Caller> waiting = new ArrayList<>();
        List<Caller> riding = new ArrayList<>();

        Set<Integer> stopFloors() {
            Set<Integer> floors = new TreeSet<>();
            for (Caller c : waiting) {
                floors.add(c.floor);
                floors.add(c.goal);
            }
            for (Caller c : riding) {
                floors.add(c.goal);
            }
            return floors;
        }

        int aim() {
            if (!riding.isEmpty()) {
                return riding.stream().map(c -> c.goal).min(Comparator
                    .<Integer>comparingInt(g -> Math.abs(g - floor)).thenComparing(g -> g)).get();
            }
            return waiting.stream().min(Comparator.comparingInt(c -> c.number)).map(c -> c.floor).orElse(NONE);
        }
    }

    private static final class Caller {
        int number;
        int floor;
        int goal;
        Car waitsFor;
        Car ridesIn;
        Car broughtBy;
        int calledAt;
        int rodeAt = NONE;
        int thereAt = NONE;
        int given;

        int phase() {
            return broughtBy != null ? 3 : ridesIn != null ? 2 : waitsFor != null ? 1 : 0;
        }

        int car() {
            Car car = broughtBy != null ? broughtBy : ridesIn != null ? ridesIn : waitsFor;
            return car == null ? NONE : car.number;
        }
    }

    private static final class World {
        int tick;
        int[] awake = new int[24];
        List<Car> cars = new ArrayList<>();
        List<Caller> callers = new ArrayList<>();

        World copy() {
            World copy = new World();
            copy.tick = tick;
            copy.awake = awake.clone();
            for (Car car : cars) {
                Car c = new Car();
                c.number = car.number;
                c.lowest = car.lowest;
                c.highest = car.highest;
                c.places = car.places;
                c.floor = car.floor;
                c.state = car.state;
                c.travelled = car.travelled;
                c.stops = car.stops;
                copy.cars.add(c);
            }
            for (Caller caller : callers) {
                Caller c = new Caller();
                c.number = caller.number;
                c.floor = caller.floor;
                c.goal = caller.goal;
                c.calledAt = caller.calledAt;
                c.rodeAt = caller.rodeAt;
                c.thereAt = caller.thereAt;
                c.given = caller.given;
                c.waitsFor = caller.waitsFor == null ? null : copy.cars.get(caller.waitsFor.number);
                c.ridesIn = caller.ridesIn == null ? null : copy.cars.get(caller.ridesIn.number);
                c.broughtBy = caller.broughtBy == null ? null : copy.cars.get(caller.broughtBy.number);
                copy.callers.add(c);
            }
            for (Car car : copy.cars) {
                for (Caller c : copy.callers) {
                    if (c.waitsFor == car) {
                        car.waiting.add(c);
                    }
                    if (c.ridesIn == car) {
                        car.riding.add(c);
                    }
                }
            }
            return copy;
        }

        int hour() {
            return tick / 60 % 24;
        }

        boolean canBeGiven(Car car, int floor, int goal) {
            return car.state == 0 && car.number < awake[hour()]
                && Math.min(floor, goal) >= car.lowest && Math.max(floor, goal) <= car.highest;
        }

        int cost(Car car, int floor, int goal) {
            Set<Integer> stops = car.stopFloors();
            Collections.addAll(stops, floor, goal);
            return Math.abs(car.floor - floor) + 2 * stops.size() + car.waiting.size() + car.riding.size();
        }

        Car cheapest(int floor, int goal) {
            return cars.stream().filter(car -> canBeGiven(car, floor, goal))
                .min(Comparator.comparingInt(car -> cost(car, floor, goal) * 10 + car.number)).orElse(null);
        }

        void give(Caller caller) {
            Car car = cheapest(caller.floor, caller.goal);
            if (car != null) {
                caller.waitsFor = car;
                caller.given++;
                car.waiting.add(caller);
            }
        }

        void tick() {
            for (Caller caller : callers) {
                if (caller.phase() == 0) {
                    give(caller);
                }
            }
            for (Car car : cars) {
                if (car.state == 0) {
                    move(car);
                }
            }
            tick++;
        }

        void move(Car car) {
            List<Caller> out = new ArrayList<>();
            for (Caller c : car.riding) {
                if (c.goal == car.floor) {
                    out.add(c);
                }
            }
            List<Caller> in = new ArrayList<>();
            car.waiting.sort(Comparator.comparingInt(c -> c.number));
            for (Caller c : car.waiting) {
                if (c.floor == car.floor && car.riding.size() - out.size() + in.size() < car.places) {
                    in.add(c);
                }
            }
            if (out.isEmpty() && in.isEmpty()) {
                int aim = car.aim();
                if (aim != NONE) {
                    car.floor += Integer.signum(aim - car.floor);
                    car.travelled++;
                }
                return;
            }
            car.stops++;
            for (Caller c : out) {
                arrive(c, car);
            }
            for (Caller c : in) {
                car.waiting.remove(c);
                car.riding.add(c);
                c.waitsFor = null;
                c.ridesIn = car;
                c.rodeAt = tick;
            }
        }

        void arrive(Caller c, Car car) {
            car.riding.remove(c);
            c.ridesIn = null;
            c.broughtBy = car;
            c.thereAt = tick;
        }

        void fail(Car car) {
            car.state = 2;
            for (Caller c : new ArrayList<>(car.riding)) {
                c.floor = car.floor;
                if (c.goal == car.floor) {
                    arrive(c, car);
                } else {
                    c.ridesIn = null;
                }
            }
            for (Caller c : car.waiting) {
                c.waitsFor = null;
            }
            car.riding.clear();
            car.waiting.clear();
        }

        int number(int phase) {
            return (int) callers.stream().filter(c -> c.phase() == phase).count();
        }

        /** In how many ticks each caller will be there; 401 if it is more than 400. */
        int[] thereIn() {
            World future = copy();
            int[] ticks = new int[callers.size()];
            for (int passed = 0; passed <= 400 && future.number(3) < callers.size(); passed++) {
                for (Caller c : future.callers) {
                    ticks[c.number] += c.phase() != 3 ? 1 : 0;
                }
                future.tick();
            }
            return ticks;
        }

        List<List<Caller>> groups() {
            Map<Integer, List<Caller>> groups = new LinkedHashMap<>();
            for (Caller c : callers) {
                if (c.phase() <= 1) {
                    groups.computeIfAbsent(c.floor * 100 + c.goal, way -> new ArrayList<>()).add(c);
                }
            }
            return new ArrayList<>(groups.values());
        }
    }

    private World now = new World();
    private final Deque<World> history = new ArrayDeque<>();

    Model() {
        java.util.Arrays.fill(now.awake, 5);
    }

    private void record() {
        history.addLast(now.copy());
        if (history.size() > 5) {
            history.removeFirst();
        }
    }

    private static boolean out(int value, int from, int to) {
        return value < from || value > to;
    }

    private boolean noCar(int car) {
        return out(car, 0, now.cars.size() - 1);
    }

    private static boolean noWay(int floor, int goal) {
        return out(floor, 0, 15) || out(goal, 0, 15) || floor == goal;
    }

    int addCar(int lowest, int highest, int places) {
        if (out(lowest, 0, 14) || out(highest, 1, 15) || highest <= lowest || out(places, 1, 8)) {
            return INVALID;
        }
        if (now.cars.size() == 5) {
            return CAPACITY;
        }
        record();
        Car car = new Car();
        car.number = now.cars.size();
        car.lowest = lowest;
        car.highest = highest;
        car.places = places;
        car.floor = lowest;
        now.cars.add(car);
        return car.number;
    }

    int setAwake(int hour, int cars) {
        if (out(hour, 0, 23) || out(cars, 1, 5)) {
            return INVALID;
        }
        record();
        int before = now.awake[hour];
        now.awake[hour] = cars;
        return before;
    }

    int hold(int car, int is) {
        if (noCar(car) || out(is, 0, 1)) {
            return INVALID;
        }
        if (now.cars.get(car).state == 2 || now.cars.get(car).state == is) {
            return STATE;
        }
        record();
        now.cars.get(car).state = is;
        return now.cars.get(car).waiting.size() + now.cars.get(car).riding.size();
    }

    int fail(int car) {
        if (noCar(car)) {
            return INVALID;
        }
        if (now.cars.get(car).state == 2) {
            return STATE;
        }
        record();
        now.fail(now.cars.get(car));
        return now.number(0);
    }

    int repair(int car) {
        if (noCar(car)) {
            return INVALID;
        }
        if (now.cars.get(car).state != 2) {
            return STATE;
        }
        record();
        now.cars.get(car).state = 0;
        return now.cars.get(car).floor;
    }

    int call(int floor, int goal) {
        if (noWay(floor, goal)) {
            return INVALID;
        }
        if (now.callers.size() == 40) {
            return CAPACITY;
        }
        record();
        Caller caller = new Caller();
        caller.number = now.callers.size();
        caller.floor = floor;
        caller.goal = goal;
        caller.calledAt = now.tick;
        now.callers.add(caller);
        now.give(caller);
        return caller.number;
    }

    int pass(int ticks) {
        if (out(ticks, 1, 200)) {
            return INVALID;
        }
        if (now.tick + ticks > 20000) {
            return STATE;
        }
        record();
        for (int i = 0; i < ticks; i++) {
            now.tick();
        }
        return now.number(3);
    }

    int undo() {
        if (history.isEmpty()) {
            return STATE;
        }
        now = history.removeLast();
        return history.size();
    }

    int count(int what) {
        return switch (what) {
            case 0 -> now.tick;
            case 1 -> now.hour();
            case 2 -> now.cars.size();
            case 3 -> now.callers.size();
            case 4, 5, 6, 7 -> now.number(what - 4);
            case 8 -> now.groups().size();
            case 9 -> now.cars.stream().mapToInt(c -> c.travelled).sum();
            case 10 -> now.cars.stream().mapToInt(c -> c.stops).sum();
            case 11, 12 -> (int) now.cars.stream().filter(c -> c.state == what - 10).count();
            case 13 -> history.size();
            default -> INVALID;
        };
    }

    int car(int car, int what) {
        if (noCar(car) || out(what, 0, 7)) {
            return INVALID;
        }
        Car c = now.cars.get(car);
        int[] properties = {c.floor, c.state, c.riding.size(), c.waiting.size(), c.stopFloors().size(),
            c.aim(), c.travelled, c.number < now.awake[now.hour()] ? 1 : 0};
        return properties[what];
    }

    int caller(int caller, int what) {
        if (out(caller, 0, now.callers.size() - 1) || out(what, 0, 7)) {
            return INVALID;
        }
        Caller c = now.callers.get(caller);
        return new int[] {c.floor, c.goal, c.phase(), c.car(), c.calledAt, c.rodeAt, c.thereAt, c.given}[what];
    }

    int group(int index, int what) {
        if (index < 0 || out(what, 0, 3)) {
            return INVALID;
        }
        List<List<Caller>> groups = now.groups();
        if (index >= groups.size()) {
            return NONE;
        }
        List<Caller> group = groups.get(index);
        Caller first = group.get(0);
        return new int[] {first.floor, first.goal, group.size(), first.number}[what];
    }

    int cost(int car, int floor, int goal) {
        if (noCar(car) || noWay(floor, goal)) {
            return INVALID;
        }
        Car c = now.cars.get(car);
        return now.canBeGiven(c, floor, goal) ? now.cost(c, floor, goal) : NONE;
    }

    int would(int floor, int goal) {
        if (noWay(floor, goal)) {
            return INVALID;
        }
        Car car = now.cheapest(floor, goal);
        return car == null ? NONE : car.number;
    }

    int thereIn(int caller) {
        if (out(caller, 0, now.callers.size() - 1)) {
            return INVALID;
        }
        int ticks = now.thereIn()[caller];
        return ticks > 400 ? NONE : ticks;
    }

    int waits(int what) {
        if (out(what, 0, 2)) {
            return INVALID;
        }
        List<Integer> waits = new ArrayList<>();
        for (Caller c : now.callers) {
            waits.add((c.phase() >= 2 ? c.rodeAt : now.tick) - c.calledAt);
        }
        if (what == 2) {
            return waits.stream().mapToInt(w -> w).sum();
        }
        if (waits.isEmpty()) {
            return NONE;
        }
        int greatest = Collections.max(waits);
        return what == 0 ? greatest : waits.indexOf(greatest);
    }

    int worstCar(int what) {
        if (out(what, 0, 1)) {
            return INVALID;
        }
        int worst = NONE;
        int most = NONE;
        for (Car car : now.cars) {
            if (car.state == 2) {
                continue;
            }
            World without = now.copy();
            without.fail(without.cars.get(car.number));
            int last = 0;
            int[] ticks = without.thereIn();
            for (Caller c : now.callers) {
                if (c.phase() != 3) {
                    last = Math.max(last, ticks[c.number]);
                }
            }
            if (last > most) {
                most = last;
                worst = car.number;
            }
        }
        return what == 0 ? worst : most;
    }
}
