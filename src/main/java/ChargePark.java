public final class ChargePark {
    public static final int NONE = -1, ALL = 3;
    public static final int LEAST_LAXITY = 0, FAIR = 1;

    private static final int MOST_POINTS = 8;
    private static final int PHASES = 3;
    private static final int LOWEST_GREATEST = 6;
    private static final int MOST_AMPERES = 32;
    private static final int MOST_BOUND = 100;
    private static final int FIRST_FUSE = 32;
    private static final int MOST_NEED = 5000;
    private static final int LONGEST_STAY = 500;
    private static final int MOST_STEPS_AT_ONCE = 50;

    private final int[] phaseOf;
    private final int[] greatestOf;
    private final int[] needOf;
    private final int[] appetiteOf;
    private final int[] leavesAt;
    private final int[] fuseOf;
    private int pointCount;
    private int greatestDifference;
    private int ruleInUse;
    private int now;
    private int takenUnits;
    private int servedCars;

    // What shareCurrents works out: it is done anew by each call that asks for
    // shares, and the rows are made once, so that a call makes no objects.
    private final int[] wanted;
    private final int[] given;
    private final int[] loadOf;
    private final int[] turns;

    public ChargePark() {
        phaseOf = new int[MOST_POINTS];
        greatestOf = new int[MOST_POINTS];
        needOf = new int[MOST_POINTS];
        appetiteOf = new int[MOST_POINTS];
        leavesAt = new int[MOST_POINTS];
        wanted = new int[MOST_POINTS];
        given = new int[MOST_POINTS];
        turns = new int[MOST_POINTS];
        loadOf = new int[PHASES];
        fuseOf = new int[PHASES];
        for (int phase = 0; phase < PHASES; phase++) {
            fuseOf[phase] = FIRST_FUSE;
        }
        greatestDifference = MOST_BOUND;
        ruleInUse = LEAST_LAXITY;
    }

    // ---- points and bounds

    public int point(int phase, int greatest) throws IllegalArgumentException, IllegalStateException {
        if (phase != ALL) {
            requirePhase(phase);
        }
        requireWithin(greatest, LOWEST_GREATEST, MOST_AMPERES);
        if (pointCount >= MOST_POINTS) {
            throw new IllegalStateException("there is no room for a further point");
        }
        int point = pointCount;
        phaseOf[point] = phase;
        greatestOf[point] = greatest;
        needOf[point] = NONE;
        pointCount++;
        return point;
    }

    public int fuse(int phase, int amperes) throws IllegalArgumentException {
        requirePhase(phase);
        requireWithin(amperes, 0, MOST_BOUND);
        int before = fuseOf[phase];
        fuseOf[phase] = amperes;
        return before;
    }

    public int balance(int amperes) throws IllegalArgumentException {
        requireWithin(amperes, 0, MOST_BOUND);
        int before = greatestDifference;
        greatestDifference = amperes;
        return before;
    }

    public int rule(int rule) throws IllegalArgumentException {
        requireWithin(rule, LEAST_LAXITY, FAIR);
        int before = ruleInUse;
        ruleInUse = rule;
        return before;
    }

    // ---- cars

    public int plugIn(int point, int need, int appetite, int steps)
            throws IndexOutOfBoundsException, IllegalArgumentException, IllegalStateException {
        requirePoint(point);
        requireWithin(need, 1, MOST_NEED);
        requireWithin(appetite, 1, MOST_AMPERES);
        requireWithin(steps, 1, LONGEST_STAY);
        if (hasCar(point)) {
            throw new IllegalStateException("there is a car at the point");
        }
        needOf[point] = need;
        appetiteOf[point] = appetite;
        leavesAt[point] = now + steps;
        return laxityAt(point);
    }

    public int takeOut(int point) throws IndexOutOfBoundsException, IllegalStateException {
        requirePoint(point);
        requireCar(point);
        int need = needOf[point];
        if (need == 0) {
            servedCars++;
        }
        needOf[point] = NONE;
        return need;
    }

    public int appetite(int point, int appetite)
            throws IndexOutOfBoundsException, IllegalArgumentException, IllegalStateException {
        requirePoint(point);
        requireWithin(appetite, 1, MOST_AMPERES);
        requireCar(point);
        int before = appetiteOf[point];
        appetiteOf[point] = appetite;
        return before;
    }

    public int stay(int point, int steps)
            throws IndexOutOfBoundsException, IllegalArgumentException, IllegalStateException {
        requirePoint(point);
        requireWithin(steps, 1, LONGEST_STAY);
        requireCar(point);
        leavesAt[point] = Math.max(leavesAt[point], now) + steps;
        return stepsLeftAt(point);
    }

    // ---- steps

    public int step(int steps) throws IllegalArgumentException {
        requireWithin(steps, 1, MOST_STEPS_AT_ONCE);
        int before = takenUnits;
        for (int gone = 0; gone < steps; gone++) {
            shareCurrents();
            takeWhatIsGiven();
            now++;
        }
        return takenUnits - before;
    }

    public int time() {
        return now;
    }

    public int points() {
        return pointCount;
    }

    public int taken() {
        return takenUnits;
    }

    public int served() {
        return servedCars;
    }

    // ---- cars as they are

    public int need(int point) throws IndexOutOfBoundsException {
        requirePoint(point);
        return needOf[point];
    }

    public int left(int point) throws IndexOutOfBoundsException {
        requirePoint(point);
        return hasCar(point) ? stepsLeftAt(point) : NONE;
    }

    public int laxity(int point) throws IndexOutOfBoundsException, IllegalStateException {
        requirePoint(point);
        requireCar(point);
        return laxityAt(point);
    }

    public int reach(int point) throws IndexOutOfBoundsException {
        requirePoint(point);
        return reachAt(point);
    }

    // ---- shares

    public int current(int point) throws IndexOutOfBoundsException {
        requirePoint(point);
        shareCurrents();
        return given[point];
    }

    public int load(int phase) throws IllegalArgumentException {
        requirePhase(phase);
        shareCurrents();
        return loadOf[phase];
    }

    public int imbalance() {
        shareCurrents();
        return differenceOfLoads();
    }

    public int held() {
        shareCurrents();
        int set = 0;
        for (int point = 0; point < pointCount; point++) {
            if (given[point] < wanted[point]) {
                set |= 1 << point;
            }
        }
        return set;
    }

    public int fairLevel(int phase) throws IllegalArgumentException {
        requirePhase(phase);
        shareCurrents();
        int amperes = fuseOf[phase] - givenAtAllPhases();
        // Reaches are whole, so between two whole levels what is used grows evenly.
        for (int level = 0; level < MOST_AMPERES; level++) {
            int used = usedAtLevel(phase, level);
            int more = usedAtLevel(phase, level + 1) - used;
            if (more > 0 && used + more > amperes) {
                return 1000 * level + 1000 * (amperes - used) / more;
            }
        }
        return NONE;
    }

    public boolean canBeReady() {
        for (int point = 0; point < pointCount; point++) {
            if (needOf[point] > 0 && laxityAt(point) < 0) {
                return false;
            }
        }
        return true;
    }

    // ---- what a call may be given

    private static void requireWithin(int value, int least, int most) {
        if (value < least || value > most) {
            throw new IllegalArgumentException("a value is out of its range");
        }
    }

    private static void requirePhase(int phase) {
        if (phase < 0 || phase >= PHASES) {
            throw new IllegalArgumentException("there is no such phase");
        }
    }

    private void requirePoint(int point) {
        if (point < 0 || point >= pointCount) {
            throw new IndexOutOfBoundsException("there is no such point");
        }
    }

    private void requireCar(int point) {
        if (!hasCar(point)) {
            throw new IllegalStateException("there is no car at the point");
        }
    }

    // ---- one car

    private boolean hasCar(int point) {
        return needOf[point] != NONE;
    }

    private int stepsLeftAt(int point) {
        return Math.max(leavesAt[point] - now, 0);
    }

    private int lesserOfGreatestAndAppetite(int point) {
        return Math.min(greatestOf[point], appetiteOf[point]);
    }

    private int unitsPerAmpere(int point) {
        return phaseOf[point] == ALL ? PHASES : 1;
    }

    private int laxityAt(int point) {
        int unitsInStep = lesserOfGreatestAndAppetite(point) * unitsPerAmpere(point);
        return stepsLeftAt(point) - dividedRoundedUp(needOf[point], unitsInStep);
    }

    private boolean isToBeGiven(int point) {
        return needOf[point] > 0 && leavesAt[point] > now;
    }

    private int reachAt(int point) {
        if (!isToBeGiven(point)) {
            return 0;
        }
        int enoughForNeed = dividedRoundedUp(needOf[point], unitsPerAmpere(point));
        return Math.min(lesserOfGreatestAndAppetite(point), enoughForNeed);
    }

    // No car brings a divisor below 1; the test makes the division safe whatever comes.
    private static int dividedRoundedUp(int amount, int divisor) {
        return divisor < 1 ? amount : (amount + divisor - 1) / divisor;
    }

    // ---- sharing out

    private void shareCurrents() {
        startShares();
        if (ruleInUse == FAIR) {
            shareFairly();
        } else {
            shareByLaxity();
        }
        keepBalance();
    }

    private void takeWhatIsGiven() {
        for (int point = 0; point < pointCount; point++) {
            if (given[point] > 0) {
                int units = Math.min(given[point] * unitsPerAmpere(point), needOf[point]);
                needOf[point] -= units;
                takenUnits += units;
            }
        }
    }

    private void startShares() {
        for (int point = 0; point < pointCount; point++) {
            given[point] = 0;
            wanted[point] = reachAt(point);
        }
        for (int phase = 0; phase < PHASES; phase++) {
            loadOf[phase] = 0;
        }
    }

    private boolean isAt(int point, int phase) {
        return phaseOf[point] == phase || phaseOf[point] == ALL;
    }

    private void give(int point, int amperes) {
        given[point] += amperes;
        for (int phase = 0; phase < PHASES; phase++) {
            if (isAt(point, phase)) {
                loadOf[phase] += amperes;
            }
        }
    }

    private int roomFor(int point) {
        int room = MOST_BOUND;
        for (int phase = 0; phase < PHASES; phase++) {
            if (isAt(point, phase)) {
                room = Math.min(room, fuseOf[phase] - loadOf[phase]);
            }
        }
        return room;
    }

    private void shareByLaxity() {
        int waiting = 0;
        for (int point = 0; point < pointCount; point++) {
            if (wanted[point] > 0) {
                putIntoTurns(point, waiting);
                waiting++;
            }
        }
        for (int turn = 0; turn < waiting; turn++) {
            int point = turns[turn];
            give(point, Math.min(wanted[point], roomFor(point)));
        }
    }

    // Points come by rising number and move only ahead of a greater laxity, so
    // those with the same one stay by rising number.
    private void putIntoTurns(int point, int waiting) {
        int laxity = laxityAt(point);
        int turn = waiting;
        while (turn > 0 && laxityAt(turns[turn - 1]) > laxity) {
            turns[turn] = turns[turn - 1];
            turn--;
        }
        turns[turn] = point;
    }

    // A round that gives nothing ends it; as no reach is above MOST_AMPERES, so
    // many rounds are enough.
    private void shareFairly() {
        boolean raised = true;
        for (int round = 0; raised && round < MOST_AMPERES; round++) {
            raised = raiseAll();
        }
    }

    // Nothing is given back between the rounds, so there is never room again for
    // a car that has been passed over: it needs no mark.
    private boolean raiseAll() {
        boolean raised = false;
        for (int point = 0; point < pointCount; point++) {
            if (given[point] < wanted[point] && roomFor(point) > 0) {
                give(point, 1);
                raised = true;
            }
        }
        return raised;
    }

    // ---- balance

    private void keepBalance() {
        for (int cut = 0; cut < MOST_POINTS * MOST_AMPERES; cut++) {
            if (differenceOfLoads() <= greatestDifference) {
                return;
            }
            int point = mostGivenAloneAt(phaseOfGreatestLoad());
            if (point == NONE) {
                return;
            }
            give(point, -1);
        }
    }

    private int differenceOfLoads() {
        int greatest = Math.max(loadOf[0], Math.max(loadOf[1], loadOf[2]));
        int least = Math.min(loadOf[0], Math.min(loadOf[1], loadOf[2]));
        return greatest - least;
    }

    private int phaseOfGreatestLoad() {
        int greatest = 0;
        for (int phase = 1; phase < PHASES; phase++) {
            if (loadOf[phase] > loadOf[greatest]) {
                greatest = phase;
            }
        }
        return greatest;
    }

    private int mostGivenAloneAt(int phase) {
        int found = NONE;
        int most = 1;
        for (int point = 0; point < pointCount; point++) {
            if (phaseOf[point] == phase && given[point] >= most) {
                found = point;
                most = given[point];
            }
        }
        return found;
    }

    // ---- fair level

    private int givenAtAllPhases() {
        int sum = 0;
        for (int point = 0; point < pointCount; point++) {
            if (phaseOf[point] == ALL) {
                sum += given[point];
            }
        }
        return sum;
    }

    private int usedAtLevel(int phase, int level) {
        int sum = 0;
        for (int point = 0; point < pointCount; point++) {
            if (phaseOf[point] == phase) {
                sum += Math.min(wanted[point], level);
            }
        }
        return sum;
    }
}
