/**
 * A second car park, written from the document's words in another, slower way, to be compared with the first:
 * cars are objects, divisions are counted out, and the fair level is sought thousandth by thousandth.
 */
final class PlainModel {
    static final int IOOBE = -1_000_001;
    static final int IAE = -1_000_002;
    static final int ISE = -1_000_003;

    private static final class Car {
        int need;
        int appetite;
        int leaves;
    }

    private static final class Point {
        int phase;
        int greatest;
        Car car;
        int amperes;
        boolean passedOver;
    }

    private final Point[] points = new Point[8];
    private final int[] fuses = {32, 32, 32};
    private int count;
    private int balance = 100;
    private int rule;
    private int time;
    private int taken;
    private int served;

    private static boolean in(int value, int least, int most) {
        return least <= value && value <= most;
    }

    int point(int phase, int greatest) {
        if (!in(phase, 0, 3) || !in(greatest, 6, 32)) {
            return IAE;
        }
        if (count == 8) {
            return ISE;
        }
        Point point = new Point();
        point.phase = phase;
        point.greatest = greatest;
        points[count] = point;
        return count++;
    }

    int fuse(int phase, int amperes) {
        if (!in(phase, 0, 2) || !in(amperes, 0, 100)) {
            return IAE;
        }
        int before = fuses[phase];
        fuses[phase] = amperes;
        return before;
    }

    int balance(int amperes) {
        if (!in(amperes, 0, 100)) {
            return IAE;
        }
        int before = balance;
        balance = amperes;
        return before;
    }

    int rule(int which) {
        if (which != 0 && which != 1) {
            return IAE;
        }
        int before = rule;
        rule = which;
        return before;
    }

    int plugIn(int number, int need, int appetite, int steps) {
        if (!in(number, 0, count - 1)) {
            return IOOBE;
        }
        if (!in(need, 1, 5000) || !in(appetite, 1, 32) || !in(steps, 1, 500)) {
            return IAE;
        }
        if (points[number].car != null) {
            return ISE;
        }
        Car car = new Car();
        car.need = need;
        car.appetite = appetite;
        car.leaves = time + steps;
        points[number].car = car;
        return laxity(number);
    }

    int takeOut(int number) {
        if (!in(number, 0, count - 1)) {
            return IOOBE;
        }
        Car car = points[number].car;
        if (car == null) {
            return ISE;
        }
        points[number].car = null;
        served += car.need == 0 ? 1 : 0;
        return car.need;
    }

    int appetite(int number, int appetite) {
        if (!in(number, 0, count - 1)) {
            return IOOBE;
        }
        if (!in(appetite, 1, 32)) {
            return IAE;
        }
        Car car = points[number].car;
        if (car == null) {
            return ISE;
        }
        int before = car.appetite;
        car.appetite = appetite;
        return before;
    }

    int stay(int number, int steps) {
        if (!in(number, 0, count - 1)) {
            return IOOBE;
        }
        if (!in(steps, 1, 500)) {
            return IAE;
        }
        Car car = points[number].car;
        if (car == null) {
            return ISE;
        }
        if (left(number) == 0) {
            car.leaves = time + steps;
        } else {
            car.leaves += steps;
        }
        return left(number);
    }

    int step(int steps) {
        if (!in(steps, 1, 50)) {
            return IAE;
        }
        int before = taken;
        for (int k = 0; k < steps; k++) {
            share();
            for (int number = 0; number < count; number++) {
                for (int unit = 0; unit < points[number].amperes * units(number); unit++) {
                    if (points[number].car.need > 0) {
                        points[number].car.need--;
                        taken++;
                    }
                }
            }
            time++;
        }
        return taken - before;
    }

    int time() {
        return time;
    }

    int points() {
        return count;
    }

    int taken() {
        return taken;
    }

    int served() {
        return served;
    }

    int need(int number) {
        if (!in(number, 0, count - 1)) {
            return IOOBE;
        }
        return points[number].car == null ? -1 : points[number].car.need;
    }

    int left(int number) {
        if (!in(number, 0, count - 1)) {
            return IOOBE;
        }
        Car car = points[number].car;
        if (car == null) {
            return -1;
        }
        return car.leaves < time ? 0 : car.leaves - time;
    }

    int laxity(int number) {
        if (!in(number, 0, count - 1)) {
            return IOOBE;
        }
        Point point = points[number];
        if (point.car == null) {
            return ISE;
        }
        int inOneStep = (point.greatest < point.car.appetite ? point.greatest : point.car.appetite) * units(number);
        int steps = 0;
        for (int rest = point.car.need; rest > 0; rest -= inOneStep) {
            steps++;
        }
        return left(number) - steps;
    }

    int reach(int number) {
        if (!in(number, 0, count - 1)) {
            return IOOBE;
        }
        Point point = points[number];
        if (point.car == null || point.car.need == 0 || left(number) == 0) {
            return 0;
        }
        int amperes = 0;
        while (amperes < point.greatest && amperes < point.car.appetite && amperes * units(number) < point.car.need) {
            amperes++;
        }
        return amperes;
    }

    int current(int number) {
        if (!in(number, 0, count - 1)) {
            return IOOBE;
        }
        share();
        return points[number].amperes;
    }

    int load(int phase) {
        if (!in(phase, 0, 2)) {
            return IAE;
        }
        share();
        return flow(phase);
    }

    int imbalance() {
        share();
        return difference();
    }

    int held() {
        share();
        int set = 0;
        for (int number = 0; number < count; number++) {
            set += points[number].amperes < reach(number) ? 1 << number : 0;
        }
        return set;
    }

    int fairLevel(int phase) {
        if (!in(phase, 0, 2)) {
            return IAE;
        }
        share();
        int shared = fuses[phase];
        for (int number = 0; number < count; number++) {
            shared -= points[number].phase == 3 ? points[number].amperes : 0;
        }
        for (int level = 0; level <= 32_000; level++) {
            int used = 0;
            for (int number = 0; number < count; number++) {
                if (points[number].phase == phase) {
                    used += Math.min(level, 1000 * reach(number));
                }
            }
            if (used > 1000 * shared) {
                return level - 1;
            }
        }
        return -1;
    }

    boolean canBeReady() {
        boolean ready = true;
        for (int number = 0; number < count; number++) {
            ready &= points[number].car == null || points[number].car.need == 0 || laxity(number) >= 0;
        }
        return ready;
    }

    private int units(int number) {
        return points[number].phase == 3 ? 3 : 1;
    }

    private int flow(int phase) {
        int sum = 0;
        for (int number = 0; number < count; number++) {
            if (points[number].phase == 3 || points[number].phase == phase) {
                sum += points[number].amperes;
            }
        }
        return sum;
    }

    /** Gives one ampere more if no phase passes its fuse then. */
    private boolean giveOne(int number) {
        points[number].amperes++;
        for (int phase = 0; phase < 3; phase++) {
            if (flow(phase) > fuses[phase]) {
                points[number].amperes--;
                return false;
            }
        }
        return true;
    }

    private void share() {
        for (int number = 0; number < count; number++) {
            points[number].amperes = 0;
            points[number].passedOver = false;
        }
        if (rule == 0) {
            shareByLaxity();
        } else {
            while (fairRound()) {
                continue;
            }
        }
        while (difference() > balance && takeOne()) {
            continue;
        }
    }

    private void shareByLaxity() {
        boolean[] had = new boolean[count];
        for (int turn = 0; turn < count; turn++) {
            int next = -1;
            for (int number = 0; number < count; number++) {
                if (!had[number] && reach(number) > 0 && (next < 0 || laxity(number) < laxity(next))) {
                    next = number;
                }
            }
            if (next >= 0) {
                had[next] = true;
                while (points[next].amperes < reach(next) && giveOne(next)) {
                    continue;
                }
            }
        }
    }

    private boolean fairRound() {
        boolean gave = false;
        for (int number = 0; number < count; number++) {
            Point point = points[number];
            if (point.amperes < reach(number) && !point.passedOver) {
                if (giveOne(number)) {
                    gave = true;
                } else {
                    point.passedOver = true;
                }
            }
        }
        return gave;
    }

    private int difference() {
        int most = 0;
        for (int one = 0; one < 3; one++) {
            for (int other = 0; other < 3; other++) {
                most = Math.max(most, flow(one) - flow(other));
            }
        }
        return most;
    }

    private boolean takeOne() {
        int fullest = flow(0) >= flow(1) && flow(0) >= flow(2) ? 0 : flow(1) >= flow(2) ? 1 : 2;
        Point from = null;
        for (int number = count - 1; number >= 0; number--) {
            Point point = points[number];
            if (point.phase == fullest && point.amperes > 0 && (from == null || point.amperes > from.amperes)) {
                from = point;
            }
        }
        if (from == null) {
            return false;
        }
        from.amperes--;
        return true;
    }
}
