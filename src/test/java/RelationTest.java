/**
 * What the document says of answers together, as relations between them: nothing is worked out the way the class does
 * it, each sentence is asked of what was answered. Drawn parks with small numbers, so that ties and full phases come often.
 */
public final class RelationTest {
    private static final int PARKS = 5000;
    private static final int ROUNDS = 3;
    private static final int ALL = ChargePark.ALL;
    private static final int NO_CAR = ChargePark.NONE;
    private static final Checks c = new Checks("RelationTest");

    private final int number;
    private long seed;

    // What the park was told, and what follows from it.
    private final ChargePark park = new ChargePark();
    private final int[] phase = new int[8];
    private final int[] greatest = new int[8];
    private final int[] need = new int[8];
    private final int[] appetite = new int[8];
    private final int[] leaves = new int[8];
    private final int[] fuse = {32, 32, 32};
    private int count;
    private int balance = 100;
    private int rule;
    private int time;
    private int taken;
    private int served;

    // What it answered.
    private final int[] left = new int[8];
    private final int[] laxity = new int[8];
    private final int[] reach = new int[8];
    private final int[] current = new int[8];
    private final int[] beforeBalance = new int[8];
    private final int[] load = new int[3];

    private RelationTest(int number) {
        this.number = number;
        seed = 104729L * number + 5;
    }

    public static void main(String[] args) {
        for (int number = 0; number < PARKS; number++) {
            RelationTest test = new RelationTest(number);
            test.makePoints();
            for (int round = 0; round < ROUNDS; round++) {
                test.change();
                test.ask();
                test.relate();
                test.letStepsGoBy(round);
            }
        }
        c.end();
    }

    /** The same numbers in every run of the test: a fixed row, no randomness. */
    private int drawn(int least, int most) {
        seed = seed * 6364136223846793005L + 1442695040888963407L;
        return least + (int) ((seed >>> 33) % (most - least + 1));
    }

    private void same(String what, long got, long due) {
        c.same("park " + number + ": " + what, got, due);
    }

    private void holds(String what, boolean answer) {
        c.yes("park " + number + ": " + what, answer);
    }

    // ---- the calls that change the park

    private void makePoints() {
        int points = drawn(1, 8);
        int phases = drawn(0, 3);
        for (int k = 0; k < points; k++) {
            phase[k] = phases == 0 ? drawn(0, 1) * 3 : drawn(0, 3);
            greatest[k] = drawn(6, 12);
            need[k] = NO_CAR;
            same("point", park.point(phase[k], greatest[k]), k);
            count++;
        }
    }

    private void change() {
        for (int p = 0; p < 3; p++) {
            int amperes = drawn(0, 3) == 0 ? drawn(0, 100) : drawn(0, 25);
            same("fuse before", park.fuse(p, amperes), fuse[p]);
            fuse[p] = amperes;
        }
        int newBalance = drawn(0, 2) == 0 ? 100 : drawn(0, 12);
        same("balance before", park.balance(newBalance), balance);
        balance = newBalance;
        int newRule = drawn(0, 1);
        same("rule before", park.rule(newRule), rule);
        rule = newRule;
        for (int k = 0; k < count; k++) {
            changeCar(k);
        }
    }

    private void changeCar(int k) {
        int way = drawn(0, 5);
        if (need[k] == NO_CAR && way > 0) {
            need[k] = drawn(0, 2) == 0 ? drawn(1, 15) : drawn(1, 90);
            appetite[k] = drawn(1, 14);
            leaves[k] = time + drawn(1, 6);
            int answer = park.plugIn(k, need[k], appetite[k], leaves[k] - time);
            same("laxity at plugIn", answer, park.laxity(k));
        } else if (need[k] != NO_CAR && way == 0) {
            same("need at takeOut", park.takeOut(k), need[k]);
            served += need[k] == 0 ? 1 : 0;
            need[k] = NO_CAR;
        } else if (need[k] != NO_CAR && way == 1) {
            int newAppetite = drawn(1, 14);
            same("appetite before", park.appetite(k, newAppetite), appetite[k]);
            appetite[k] = newAppetite;
        } else if (need[k] != NO_CAR && way == 2) {
            int steps = drawn(1, 4);
            leaves[k] = leaves[k] > time ? leaves[k] + steps : time + steps;
            same("left after stay", park.stay(k, steps), leaves[k] - time);
        }
    }

    // ---- the questions

    private void ask() {
        for (int k = 0; k < count; k++) {
            same("need", park.need(k), need[k]);
            left[k] = park.left(k);
            reach[k] = park.reach(k);
            current[k] = park.current(k);
            laxity[k] = need[k] == NO_CAR ? 0 : park.laxity(k);
        }
        for (int p = 0; p < 3; p++) {
            askBetween();
            load[p] = park.load(p);
        }
        park.balance(100);
        for (int k = 0; k < count; k++) {
            beforeBalance[k] = park.current(k);
        }
        park.balance(balance);
    }

    /** Another question under another rule: what comes then must be answered anew. */
    private void askBetween() {
        park.rule(1 - rule);
        park.current(0);
        park.rule(rule);
    }

    private boolean isAt(int k, int p) {
        return phase[k] == p || phase[k] == ALL;
    }

    private int units(int k) {
        return phase[k] == ALL ? 3 : 1;
    }

    private int sum(int[] currents, int p) {
        int sum = 0;
        for (int k = 0; k < count; k++) {
            sum += isAt(k, p) ? currents[k] : 0;
        }
        return sum;
    }

    // ---- what the document says of them

    private void relate() {
        same("time", park.time(), time);
        same("points", park.points(), count);
        same("taken", park.taken(), taken);
        same("served", park.served(), served);
        boolean ready = true;
        for (int k = 0; k < count; k++) {
            if (need[k] == NO_CAR) {
                same("left without car", left[k], NO_CAR);
                same("reach without car", reach[k], 0);
                same("current without car", beforeBalance[k], 0);
            } else {
                relateLeftAndLaxity(k);
                relateReach(k);
                ready &= need[k] == 0 || laxity[k] >= 0;
            }
        }
        holds("canBeReady", park.canBeReady() == ready);
        relateLoads();
        for (int k = 0; k < count; k++) {
            if (rule == ChargePark.LEAST_LAXITY) {
                relateLeastLaxity(k);
            } else {
                relateFair(k);
            }
        }
        relateBalance();
        relateHeld();
        for (int p = 0; p < 3; p++) {
            relateFairLevel(p);
        }
    }

    private void relateLeftAndLaxity(int k) {
        same("left", left[k], Math.max(leaves[k] - time, 0));
        int inAStep = Math.min(greatest[k], appetite[k]) * units(k);
        int steps = left[k] - laxity[k];
        holds("so many steps are enough for the need", steps >= 0 && steps * inAStep >= need[k]);
        holds("one step less is too little", steps == 0 || (steps - 1) * inAStep < need[k]);
    }

    private void relateReach(int k) {
        if (need[k] == 0 || left[k] == 0) {
            same("reach of one that is not to be given anything", reach[k], 0);
            return;
        }
        int most = Math.min(greatest[k], appetite[k]);
        holds("reach is above 0 and within the lesser one", reach[k] >= 1 && reach[k] <= most);
        holds("reach is that, or does the need", reach[k] == most || reach[k] * units(k) >= need[k]);
        holds("one ampere less does not do the need", (reach[k] - 1) * units(k) < need[k]);
    }

    private void relateLoads() {
        int most = 0;
        for (int p = 0; p < 3; p++) {
            same("load", load[p], sum(current, p));
            holds("no phase passes its fuse", load[p] <= fuse[p] && sum(beforeBalance, p) <= fuse[p]);
            for (int other = 0; other < 3; other++) {
                most = Math.max(most, load[p] - load[other]);
            }
        }
        askBetween();
        same("imbalance", park.imbalance(), most);
        holds("the balance is kept", most <= balance);
    }

    private boolean comesBefore(int k, int other) {
        return laxity[k] < laxity[other] || laxity[k] == laxity[other] && k < other;
    }

    /** As much as those before it leave in the narrowest of its phases, up to its reach. */
    private void relateLeastLaxity(int k) {
        int due = reach[k];
        for (int p = 0; p < 3; p++) {
            int room = fuse[p];
            for (int other = 0; other < count; other++) {
                room -= isAt(other, p) && reach[other] > 0 && comesBefore(other, k) ? beforeBalance[other] : 0;
            }
            due = isAt(k, p) ? Math.min(due, room) : due;
        }
        same("current by laxity", beforeBalance[k], due);
    }

    /**
     * Who stays below its reach was passed over for a phase that was full then: in it a point before it has at most
     * one more, a point behind it no more.
     */
    private void relateFair(int k) {
        holds("current is at most reach", beforeBalance[k] >= 0 && beforeBalance[k] <= reach[k]);
        if (beforeBalance[k] == reach[k]) {
            return;
        }
        boolean passedOver = false;
        for (int p = 0; p < 3; p++) {
            boolean fair = isAt(k, p) && sum(beforeBalance, p) == fuse[p];
            for (int other = 0; other < count; other++) {
                int more = isAt(other, p) ? beforeBalance[other] - beforeBalance[k] : 0;
                fair &= more <= (other < k ? 1 : 0);
            }
            passedOver |= fair;
        }
        holds("passed over for a full phase, shared fairly", passedOver);
    }

    /** Each phase is cut down to the least one and the balance, from the most given, and of several from the highest. */
    private void relateBalance() {
        int least = Math.min(sum(beforeBalance, 0), Math.min(sum(beforeBalance, 1), sum(beforeBalance, 2)));
        for (int p = 0; p < 3; p++) {
            same("load in balance", load[p], Math.min(sum(beforeBalance, p), least + balance));
        }
        for (int k = 0; k < count; k++) {
            holds("no current below 0", current[k] >= 0);
            if (phase[k] == ALL) {
                same("current at ALL in balance", current[k], beforeBalance[k]);
            } else if (current[k] != beforeBalance[k]) {
                relateCut(k);
            }
        }
    }

    private void relateCut(int k) {
        holds("1 is taken, never given", current[k] < beforeBalance[k]);
        for (int other = 0; other < count; other++) {
            if (phase[other] == phase[k]) {
                int more = current[other] - current[k];
                holds("the most given first, of several the highest", more <= (other < k ? 1 : 0));
            }
        }
    }

    private void relateHeld() {
        int due = 0;
        for (int k = 0; k < count; k++) {
            due += current[k] < reach[k] ? 1 << k : 0;
        }
        askBetween();
        same("held", park.held(), due);
    }

    private void relateFairLevel(int p) {
        int shared = 1000 * fuse[p];
        for (int k = 0; k < count; k++) {
            shared -= phase[k] == ALL ? 1000 * current[k] : 0;
        }
        askBetween();
        int level = park.fairLevel(p);
        if (level == ChargePark.NONE) {
            holds("all can be given their reach", usedAt(p, 32_000) <= shared);
        } else {
            holds("the level does not use up more", level >= 0 && usedAt(p, level) <= shared);
            holds("a thousandth more does", usedAt(p, level + 1) > shared);
        }
    }

    private int usedAt(int p, int level) {
        int sum = 0;
        for (int k = 0; k < count; k++) {
            sum += phase[k] == p ? Math.min(level, 1000 * reach[k]) : 0;
        }
        return sum;
    }

    // ---- a step

    private void letStepsGoBy(int round) {
        int units = 0;
        for (int k = 0; k < count; k++) {
            if (need[k] != NO_CAR) {
                int takes = Math.min(current[k] * units(k), need[k]);
                need[k] -= takes;
                units += takes;
            }
        }
        askBetween();
        same("units in a step", park.step(1), units);
        taken += units;
        time++;
        for (int k = 0; round % 2 == 0 && k < count; k++) {
            same("need after a step", park.need(k), need[k]);
        }
    }
}
