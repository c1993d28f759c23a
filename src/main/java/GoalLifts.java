/**
 * Lifts that are called by goals. What each method promises stands in the document; all rows are
 * made in the constructor, so that no later call makes an object.
 */
public final class GoalLifts {
    public static final int INVALID_ARGUMENT = -1;
    public static final int ILLEGAL_STATE = -2;
    public static final int CAPACITY_EXCEEDED = -3;
    public static final int NONE = -9;

    private static final int FLOORS = 16;
    private static final int MAX_CARS = 5;
    private static final int MAX_PLACES = 8;
    private static final int MAX_CALLERS = 40;
    private static final int HOURS = 24;
    private static final int TICKS_PER_HOUR = 60;
    private static final int MAX_PASS = 200;
    private static final int LAST_TICK = 20000;
    private static final int FORECAST_TICKS = 400;
    private static final int HISTORY_SIZE = 5;

    // The states of a car and the phases of a caller have the numbers that the document gives them.
    private static final int READY = 0;
    private static final int HELD = 1;
    private static final int FAILED = 2;
    private static final int LOOKING = 0;
    private static final int WAITING = 1;
    private static final int RIDING = 2;
    private static final int THERE = 3;

    private final House house;
    private final House forecast;
    private final History history;

    public GoalLifts() {
        house = new House();
        forecast = new House();
        history = new History();
    }

    // ---- cars and modes

    public int addCar(int lowest, int highest, int places) {
        if (!isFloor(lowest) || !isFloor(highest) || highest <= lowest) {
            return INVALID_ARGUMENT;
        }
        if (places < 1 || places > MAX_PLACES) {
            return INVALID_ARGUMENT;
        }
        if (house.cars.count >= MAX_CARS) {
            return CAPACITY_EXCEEDED;
        }
        history.keep(house);
        return house.cars.add(lowest, highest, places);
    }

    public int setAwake(int hour, int cars) {
        if (hour < 0 || hour >= HOURS || cars < 1 || cars > MAX_CARS) {
            return INVALID_ARGUMENT;
        }
        history.keep(house);
        int previous = house.awake[hour];
        house.awake[hour] = cars;
        return previous;
    }

    public int hold(int car, int is) {
        if (!house.cars.has(car) || is < 0 || is > 1) {
            return INVALID_ARGUMENT;
        }
        int wanted = is == 1 ? HELD : READY;
        int state = house.cars.state[car];
        if (state == FAILED || state == wanted) {
            return ILLEGAL_STATE;
        }
        history.keep(house);
        house.cars.state[car] = wanted;
        return house.callers.numberWith(car);
    }

    public int fail(int car) {
        if (!house.cars.has(car)) {
            return INVALID_ARGUMENT;
        }
        if (house.cars.state[car] == FAILED) {
            return ILLEGAL_STATE;
        }
        history.keep(house);
        house.breakCar(car);
        return house.callers.numberIn(LOOKING);
    }

    public int repair(int car) {
        if (!house.cars.has(car)) {
            return INVALID_ARGUMENT;
        }
        if (house.cars.state[car] != FAILED) {
            return ILLEGAL_STATE;
        }
        history.keep(house);
        house.cars.state[car] = READY;
        return house.cars.floor[car];
    }

    // ---- callers and time

    public int call(int floor, int goal) {
        if (!isWay(floor, goal)) {
            return INVALID_ARGUMENT;
        }
        if (house.callers.count >= MAX_CALLERS) {
            return CAPACITY_EXCEEDED;
        }
        history.keep(house);
        int best = house.bestCar(floor, goal);
        int added = house.callers.add(floor, goal, house.tick);
        house.callers.give(added, best);
        return added;
    }

    public int pass(int ticks) {
        if (ticks < 1 || ticks > MAX_PASS) {
            return INVALID_ARGUMENT;
        }
        if (house.tick + ticks > LAST_TICK) {
            return ILLEGAL_STATE;
        }
        history.keep(house);
        for (int done = 0; done < ticks; done++) {
            house.oneTick();
        }
        return house.callers.numberIn(THERE);
    }

    public int undo() {
        if (history.count < 1) {
            return ILLEGAL_STATE;
        }
        history.restore(house);
        return history.count;
    }

    // ---- looking

    public int count(int what) {
        switch (what) {
            case 0: return house.tick;
            case 1: return house.hour();
            case 2: return house.cars.count;
            case 3: return house.callers.count;
            case 4: return house.callers.numberIn(LOOKING);
            case 5: return house.callers.numberIn(WAITING);
            case 6: return house.callers.numberIn(RIDING);
            case 7: return house.callers.numberIn(THERE);
            case 8: return house.callers.numberOfGroups();
            case 9: return house.cars.travelledByAll();
            case 10: return house.cars.stopsMade;
            case 11: return house.cars.numberIn(HELD);
            case 12: return house.cars.numberIn(FAILED);
            case 13: return history.count;
            default: return INVALID_ARGUMENT;
        }
    }

    public int car(int car, int what) {
        if (!house.cars.has(car)) {
            return INVALID_ARGUMENT;
        }
        switch (what) {
            case 0: return house.cars.floor[car];
            case 1: return house.cars.state[car];
            case 2: return house.callers.numberOf(car, RIDING);
            case 3: return house.callers.numberOf(car, WAITING);
            case 4: return Integer.bitCount(house.callers.stopsOf(car));
            case 5: return house.callers.aimOf(car, house.cars.floor[car]);
            case 6: return house.cars.travelled[car];
            case 7: return house.isAwake(car) ? 1 : 0;
            default: return INVALID_ARGUMENT;
        }
    }

    public int caller(int caller, int what) {
        if (!house.callers.has(caller)) {
            return INVALID_ARGUMENT;
        }
        switch (what) {
            case 0: return house.callers.floor[caller];
            case 1: return house.callers.goal[caller];
            case 2: return house.callers.phase[caller];
            case 3: return house.callers.given[caller];
            case 4: return house.callers.calledAt[caller];
            case 5: return house.callers.rodeAt[caller];
            case 6: return house.callers.thereAt[caller];
            case 7: return house.callers.timesGiven[caller];
            default: return INVALID_ARGUMENT;
        }
    }

    public int group(int index, int what) {
        if (index < 0 || what < 0 || what > 3) {
            return INVALID_ARGUMENT;
        }
        int first = house.callers.firstOfGroup(index);
        if (!house.callers.has(first)) {
            return NONE;
        }
        switch (what) {
            case 0: return house.callers.floor[first];
            case 1: return house.callers.goal[first];
            case 2: return house.callers.sizeOfGroup(first);
            default: return first;
        }
    }

    // ---- what could be, which changes nothing

    public int cost(int car, int floor, int goal) {
        if (!house.cars.has(car) || !isWay(floor, goal)) {
            return INVALID_ARGUMENT;
        }
        return house.canBeGiven(car, floor, goal) ? house.costOf(car, floor, goal) : NONE;
    }

    public int would(int floor, int goal) {
        return isWay(floor, goal) ? house.bestCar(floor, goal) : INVALID_ARGUMENT;
    }

    public int thereIn(int caller) {
        if (!house.callers.has(caller)) {
            return INVALID_ARGUMENT;
        }
        forecast.copyFrom(house);
        for (int ticks = 0; ticks <= FORECAST_TICKS; ticks++) {
            if (forecast.callers.phase[caller] == THERE) {
                return ticks;
            }
            forecast.oneTick();
        }
        return NONE;
    }

    public int waits(int what) {
        if (what < 0 || what > 2) {
            return INVALID_ARGUMENT;
        }
        int greatest = NONE;
        int who = NONE;
        int sum = 0;
        for (int caller = 0; caller < house.callers.count; caller++) {
            int wait = house.callers.waitOf(caller, house.tick);
            sum += wait;
            if (wait > greatest) {
                greatest = wait;
                who = caller;
            }
        }
        switch (what) {
            case 0: return greatest;
            case 1: return who;
            default: return sum;
        }
    }

    public int worstCar(int what) {
        if (what < 0 || what > 1) {
            return INVALID_ARGUMENT;
        }
        int worst = NONE;
        int latest = NONE;
        for (int car = 0; car < house.cars.count; car++) {
            if (house.cars.state[car] == FAILED) {
                continue;
            }
            int ticks = allThereInWithout(car);
            if (ticks > latest) {
                latest = ticks;
                worst = car;
            }
        }
        return what == 0 ? worst : latest;
    }

    // ---- helpers

    private static boolean isFloor(int floor) {
        return floor >= 0 && floor < FLOORS;
    }

    private static boolean isWay(int floor, int goal) {
        return isFloor(floor) && isFloor(goal) && floor != goal;
    }

    /** In how many ticks all would be there if the car failed now; 401 if not within 400. */
    private int allThereInWithout(int car) {
        forecast.copyFrom(house);
        forecast.breakCar(car);
        for (int ticks = 0; ticks <= FORECAST_TICKS; ticks++) {
            if (forecast.callers.numberIn(THERE) == forecast.callers.count) {
                return ticks;
            }
            forecast.oneTick();
        }
        return FORECAST_TICKS + 1;
    }

    /** The cars: a row for each thing that is known of them. */
    private static final class Cars {
        int count;
        int stopsMade;
        final int[] lowest = new int[MAX_CARS];
        final int[] highest = new int[MAX_CARS];
        final int[] places = new int[MAX_CARS];
        final int[] floor = new int[MAX_CARS];
        final int[] state = new int[MAX_CARS];
        final int[] travelled = new int[MAX_CARS];

        void copyFrom(Cars other) {
            count = other.count;
            stopsMade = other.stopsMade;
            System.arraycopy(other.lowest, 0, lowest, 0, MAX_CARS);
            System.arraycopy(other.highest, 0, highest, 0, MAX_CARS);
            System.arraycopy(other.places, 0, places, 0, MAX_CARS);
            System.arraycopy(other.floor, 0, floor, 0, MAX_CARS);
            System.arraycopy(other.state, 0, state, 0, MAX_CARS);
            System.arraycopy(other.travelled, 0, travelled, 0, MAX_CARS);
        }

        boolean has(int car) {
            return car >= 0 && car < count;
        }

        /** Adds a car and returns its number; NONE if there is no room. */
        int add(int newLowest, int newHighest, int newPlaces) {
            int added = count;
            if (added >= MAX_CARS) {
                return NONE;
            }
            lowest[added] = newLowest;
            highest[added] = newHighest;
            places[added] = newPlaces;
            floor[added] = newLowest;
            state[added] = READY;
            travelled[added] = 0;
            count = added + 1;
            return added;
        }

        boolean serves(int car, int someFloor) {
            return someFloor >= lowest[car] && someFloor <= highest[car];
        }

        void travelTowards(int car, int aim) {
            floor[car] += aim > floor[car] ? 1 : -1;
            travelled[car]++;
        }

        int numberIn(int someState) {
            int number = 0;
            for (int car = 0; car < count; car++) {
                if (state[car] == someState) {
                    number++;
                }
            }
            return number;
        }

        int travelledByAll() {
            int sum = 0;
            for (int car = 0; car < count; car++) {
                sum += travelled[car];
            }
            return sum;
        }
    }

    /** The callers: a row for each thing that is known of them. */
    private static final class Callers {
        int count;
        final int[] floor = new int[MAX_CALLERS];
        final int[] goal = new int[MAX_CALLERS];
        final int[] phase = new int[MAX_CALLERS];
        // The car that is given, or that brought the caller there: ask for the phase too.
        final int[] given = new int[MAX_CALLERS];
        final int[] calledAt = new int[MAX_CALLERS];
        final int[] rodeAt = new int[MAX_CALLERS];
        final int[] thereAt = new int[MAX_CALLERS];
        final int[] timesGiven = new int[MAX_CALLERS];

        void copyFrom(Callers other) {
            count = other.count;
            System.arraycopy(other.floor, 0, floor, 0, MAX_CALLERS);
            System.arraycopy(other.goal, 0, goal, 0, MAX_CALLERS);
            System.arraycopy(other.phase, 0, phase, 0, MAX_CALLERS);
            System.arraycopy(other.given, 0, given, 0, MAX_CALLERS);
            System.arraycopy(other.calledAt, 0, calledAt, 0, MAX_CALLERS);
            System.arraycopy(other.rodeAt, 0, rodeAt, 0, MAX_CALLERS);
            System.arraycopy(other.thereAt, 0, thereAt, 0, MAX_CALLERS);
            System.arraycopy(other.timesGiven, 0, timesGiven, 0, MAX_CALLERS);
        }

        boolean has(int caller) {
            return caller >= 0 && caller < count;
        }

        /** Adds a caller who is looking and returns the number; NONE if there is no room. */
        int add(int newFloor, int newGoal, int tick) {
            int added = count;
            if (added >= MAX_CALLERS) {
                return NONE;
            }
            floor[added] = newFloor;
            goal[added] = newGoal;
            phase[added] = LOOKING;
            given[added] = NONE;
            calledAt[added] = tick;
            rodeAt[added] = NONE;
            thereAt[added] = NONE;
            timesGiven[added] = 0;
            count = added + 1;
            return added;
        }

        /** Lets the caller wait for the car; without a car (NONE) the caller goes on looking. */
        void give(int caller, int car) {
            if (car == NONE || !has(caller)) {
                return;
            }
            phase[caller] = WAITING;
            given[caller] = car;
            timesGiven[caller]++;
        }

        boolean rides(int caller, int car) {
            return phase[caller] == RIDING && given[caller] == car;
        }

        boolean waitsFor(int caller, int car) {
            return phase[caller] == WAITING && given[caller] == car;
        }

        int numberIn(int somePhase) {
            int number = 0;
            for (int caller = 0; caller < count; caller++) {
                if (phase[caller] == somePhase) {
                    number++;
                }
            }
            return number;
        }

        int numberOf(int car, int somePhase) {
            int number = 0;
            for (int caller = 0; caller < count; caller++) {
                if (phase[caller] == somePhase && given[caller] == car) {
                    number++;
                }
            }
            return number;
        }

        int numberWith(int car) {
            return numberOf(car, WAITING) + numberOf(car, RIDING);
        }

        /** The stops of the car as a set: the bit of each floor where it is to stop. */
        int stopsOf(int car) {
            int stops = 0;
            for (int caller = 0; caller < count; caller++) {
                if (waitsFor(caller, car)) {
                    stops |= 1 << floor[caller] | 1 << goal[caller];
                } else if (rides(caller, car)) {
                    stops |= 1 << goal[caller];
                }
            }
            return stops;
        }

        /** The floor to which the car, being on a floor, would travel; NONE without one. */
        int aimOf(int car, int carFloor) {
            int nearestGoal = NONE;
            int firstFloor = NONE;
            for (int caller = 0; caller < count; caller++) {
                if (rides(caller, car)) {
                    if (nearestGoal == NONE || isNearer(goal[caller], nearestGoal, carFloor)) {
                        nearestGoal = goal[caller];
                    }
                } else if (firstFloor == NONE && waitsFor(caller, car)) {
                    firstFloor = floor[caller];
                }
            }
            return nearestGoal != NONE ? nearestGoal : firstFloor;
        }

        /** Whether one floor comes before another as an aim: of two as near the lower one does. */
        static boolean isNearer(int one, int another, int from) {
            int distance = Math.abs(one - from);
            int otherDistance = Math.abs(another - from);
            return distance < otherDistance || distance == otherDistance && one < another;
        }

        /** Lets out all who ride in the car to this floor; returns how many. */
        int letOut(int car, int carFloor, int tick) {
            int out = 0;
            for (int caller = 0; caller < count; caller++) {
                if (rides(caller, car) && goal[caller] == carFloor) {
                    phase[caller] = THERE;
                    thereAt[caller] = tick;
                    out++;
                }
            }
            return out;
        }

        /** Takes those who wait for the car on this floor, while it has room; returns how many. */
        int takeIn(int car, int carFloor, int places, int tick) {
            int free = places - numberOf(car, RIDING);
            int taken = 0;
            for (int caller = 0; caller < count && taken < free; caller++) {
                if (waitsFor(caller, car) && floor[caller] == carFloor) {
                    phase[caller] = RIDING;
                    rodeAt[caller] = tick;
                    taken++;
                }
            }
            return taken;
        }

        /** Takes the car from all who have it; who rode in it stands on its floor then. */
        void loseCar(int car, int carFloor, int tick) {
            for (int caller = 0; caller < count; caller++) {
                boolean rode = rides(caller, car);
                if (!rode && !waitsFor(caller, car)) {
                    continue;
                }
                if (rode) {
                    floor[caller] = carFloor;
                }
                if (rode && goal[caller] == carFloor) {
                    phase[caller] = THERE;
                    thereAt[caller] = tick;
                } else {
                    phase[caller] = LOOKING;
                    given[caller] = NONE;
                }
            }
        }

        int waitOf(int caller, int tick) {
            boolean hasRidden = phase[caller] == RIDING || phase[caller] == THERE;
            return (hasRidden ? rodeAt[caller] : tick) - calledAt[caller];
        }

        boolean isInGroup(int caller) {
            return phase[caller] == LOOKING || phase[caller] == WAITING;
        }

        boolean sameGroup(int one, int another) {
            return isInGroup(one) && isInGroup(another)
                && floor[one] == floor[another] && goal[one] == goal[another];
        }

        boolean isFirstOfGroup(int caller) {
            for (int before = 0; before < caller; before++) {
                if (sameGroup(before, caller)) {
                    return false;
                }
            }
            return isInGroup(caller);
        }

        int numberOfGroups() {
            int groups = 0;
            for (int caller = 0; caller < count; caller++) {
                if (isFirstOfGroup(caller)) {
                    groups++;
                }
            }
            return groups;
        }

        /** The smallest number of a caller in the group; NONE if there are not so many groups. */
        int firstOfGroup(int index) {
            int groupsBefore = 0;
            for (int caller = 0; caller < count; caller++) {
                if (!isFirstOfGroup(caller)) {
                    continue;
                }
                if (groupsBefore == index) {
                    return caller;
                }
                groupsBefore++;
            }
            return NONE;
        }

        int sizeOfGroup(int first) {
            int size = 0;
            for (int caller = 0; caller < count; caller++) {
                if (sameGroup(first, caller)) {
                    size++;
                }
            }
            return size;
        }
    }

    /** A state: everything but the history. */
    private static final class House {
        int tick;
        final int[] awake = new int[HOURS];
        final Cars cars = new Cars();
        final Callers callers = new Callers();

        House() {
            for (int hour = 0; hour < HOURS; hour++) {
                awake[hour] = MAX_CARS;
            }
        }

        void copyFrom(House other) {
            tick = other.tick;
            System.arraycopy(other.awake, 0, awake, 0, HOURS);
            cars.copyFrom(other.cars);
            callers.copyFrom(other.callers);
        }

        int hour() {
            return tick / TICKS_PER_HOUR % HOURS;
        }

        boolean isAwake(int car) {
            return car < awake[hour()];
        }

        boolean canBeGiven(int car, int floor, int goal) {
            return cars.state[car] == READY && isAwake(car)
                && cars.serves(car, floor) && cars.serves(car, goal);
        }

        /** The cost of the car for a caller who neither waits for it nor rides in it. */
        int costOf(int car, int floor, int goal) {
            int distance = Math.abs(cars.floor[car] - floor);
            int stops = Integer.bitCount(callers.stopsOf(car) | 1 << floor | 1 << goal);
            return distance + 2 * stops + callers.numberWith(car);
        }

        /** The car that a caller without a car would be given; NONE if there is none. */
        int bestCar(int floor, int goal) {
            int best = NONE;
            int bestCost = 0;
            for (int car = 0; car < cars.count; car++) {
                if (!canBeGiven(car, floor, goal)) {
                    continue;
                }
                int carCost = costOf(car, floor, goal);
                if (best == NONE || carCost < bestCost) {
                    best = car;
                    bestCost = carCost;
                }
            }
            return best;
        }

        void oneTick() {
            for (int caller = 0; caller < callers.count; caller++) {
                if (callers.phase[caller] == LOOKING) {
                    callers.give(caller, bestCar(callers.floor[caller], callers.goal[caller]));
                }
            }
            for (int car = 0; car < cars.count; car++) {
                if (cars.state[car] == READY) {
                    stopOrTravel(car);
                }
            }
            tick++;
        }

        void stopOrTravel(int car) {
            int carFloor = cars.floor[car];
            // Letting out comes first: it makes room for those who are taken in the same tick.
            int out = callers.letOut(car, carFloor, tick);
            int taken = callers.takeIn(car, carFloor, cars.places[car], tick);
            if (out + taken > 0) {
                cars.stopsMade++;
                return;
            }
            int aim = callers.aimOf(car, carFloor);
            if (aim != NONE) {
                cars.travelTowards(car, aim);
            }
        }

        void breakCar(int car) {
            cars.state[car] = FAILED;
            callers.loseCar(car, cars.floor[car], tick);
        }
    }

    /** The last states; when there is no room for another, it takes the oldest one's place. */
    private static final class History {
        int count;
        private int next;
        private final House[] states = new House[HISTORY_SIZE];

        History() {
            for (int slot = 0; slot < HISTORY_SIZE; slot++) {
                states[slot] = new House();
            }
        }

        void keep(House house) {
            House kept = states[next];
            if (kept == null) {
                return;
            }
            kept.copyFrom(house);
            next = Math.floorMod(next + 1, HISTORY_SIZE);
            count = Math.min(count + 1, HISTORY_SIZE);
        }

        void restore(House house) {
            int latest = Math.floorMod(next - 1, HISTORY_SIZE);
            House kept = states[latest];
            if (kept == null || count < 1) {
                return;
            }
            house.copyFrom(kept);
            next = latest;
            count--;
        }
    }
}
