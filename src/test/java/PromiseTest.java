/** The promises one by one, with answers worked out by hand: ordinary inputs, named edges, wrong inputs. */
public final class PromiseTest {
    private static final int NONE = ChargePark.NONE;
    private static final int ALL = ChargePark.ALL;
    private static final int LEAST_LAXITY = ChargePark.LEAST_LAXITY;
    private static final int FAIR = ChargePark.FAIR;
    private static final int LOWEST = Integer.MIN_VALUE;
    private static final int HIGHEST = Integer.MAX_VALUE;
    private static final Class<IndexOutOfBoundsException> NO_POINT = IndexOutOfBoundsException.class;
    private static final Class<IllegalArgumentException> OUT_OF_RANGE = IllegalArgumentException.class;
    private static final Class<IllegalStateException> NOT_NOW = IllegalStateException.class;
    private static final Checks c = new Checks("PromiseTest");

    public static void main(String[] args) {
        newObject();
        point();
        fuse();
        balance();
        rule();
        plugIn();
        takeOut();
        appetite();
        stay();
        step();
        timeAndPoints();
        takenAndServed();
        needAndLeft();
        laxity();
        reach();
        currentByLaxity();
        currentByFairness();
        currentInBalance();
        load();
        imbalance();
        held();
        fairLevel();
        canBeReady();
        c.end();
    }

    /** A park with one point of 32 amperes at each of these phases. */
    private static ChargePark park(int... phases) {
        ChargePark park = new ChargePark();
        for (int phase : phases) {
            park.point(phase, 32);
        }
        return park;
    }

    private static void currents(String what, ChargePark park, int... due) {
        for (int point = 0; point < due.length; point++) {
            c.same(what + ": current(" + point + ")", park.current(point), due[point]);
        }
    }

    // promise 1
    private static void newObject() {
        ChargePark park = new ChargePark();
        c.same("new: points", park.points(), 0);
        c.same("new: time", park.time(), 0);
        c.same("new: taken", park.taken(), 0);
        c.same("new: served", park.served(), 0);
        c.same("new: imbalance", park.imbalance(), 0);
        c.same("new: held", park.held(), 0);
        c.yes("new: canBeReady", park.canBeReady());
        for (int phase = 0; phase < 3; phase++) {
            c.same("new: load", park.load(phase), 0);
            c.same("new: fairLevel", park.fairLevel(phase), NONE);
            c.same("new: fuse", park.fuse(phase, 0), 32);
        }
        c.same("new: balance", park.balance(0), 100);
        c.same("new: rule", park.rule(FAIR), LEAST_LAXITY);
        park.point(0, 6);
        c.same("new: two parks share nothing", new ChargePark().points(), 0);
    }

    // promise 2
    private static void point() {
        ChargePark park = new ChargePark();
        int[] wrongPhases = {-1, 4, LOWEST, HIGHEST};
        int[] wrongGreatest = {5, 33, 0, -6, LOWEST, HIGHEST};
        for (int phase : wrongPhases) {
            c.refuses("point(phase " + phase + ")", park, OUT_OF_RANGE, () -> park.point(phase, 6));
        }
        for (int greatest : wrongGreatest) {
            c.refuses("point(greatest " + greatest + ")", park, OUT_OF_RANGE, () -> park.point(0, greatest));
        }
        for (int number = 0; number < 8; number++) {
            c.same("point", park.point(number % 4, number % 2 == 0 ? 6 : 32), number);
            c.same("point: no car yet", park.need(number), NONE);
        }
        c.refuses("ninth point", park, NOT_NOW, () -> park.point(0, 6));
        c.refuses("ninth point, wrong phase first", park, OUT_OF_RANGE, () -> park.point(4, 6));
        c.refuses("ninth point, wrong greatest first", park, OUT_OF_RANGE, () -> park.point(0, 33));
        c.same("greatest current bounds a car", park.plugIn(0, 600, 32, 100), 0);
        c.same("at ALL three phases flow", park.plugIn(3, 960, 32, 10), 0);
    }

    // promise 3
    private static void fuse() {
        ChargePark park = park(0, 1);
        park.plugIn(0, 900, 32, 50);
        park.plugIn(1, 900, 32, 50);
        int[] wrongPhases = {-1, 3, LOWEST, HIGHEST};
        int[] wrongAmperes = {-1, 101, LOWEST, HIGHEST};
        for (int phase : wrongPhases) {
            c.refuses("fuse(phase " + phase + ")", park, OUT_OF_RANGE, () -> park.fuse(phase, 10));
        }
        for (int amperes : wrongAmperes) {
            c.refuses("fuse(amperes " + amperes + ")", park, OUT_OF_RANGE, () -> park.fuse(0, amperes));
        }
        c.same("fuse", park.fuse(0, 10), 32);
        currents("a fuse bounds its phase alone", park, 10, 32);
        c.same("fuse", park.fuse(0, 0), 10);
        currents("a fuse of 0", park, 0, 32);
        c.same("fuse", park.fuse(0, 100), 0);
        currents("a fuse of 100", park, 32, 32);
        c.same("fuse", park.fuse(0, 100), 100);
        c.same("fuse of another phase", park.fuse(2, 5), 32);
    }

    // promise 4
    private static void balance() {
        ChargePark park = park(0);
        park.plugIn(0, 900, 32, 50);
        int[] wrong = {-1, 101, LOWEST, HIGHEST};
        for (int amperes : wrong) {
            c.refuses("balance(" + amperes + ")", park, OUT_OF_RANGE, () -> park.balance(amperes));
        }
        c.same("balance", park.balance(7), 100);
        currents("a balance of 7", park, 7);
        c.same("balance", park.balance(0), 7);
        currents("a balance of 0", park, 0);
        c.same("balance", park.balance(100), 0);
        currents("a balance of 100", park, 32);
        c.same("balance", park.balance(100), 100);
    }

    // promise 5
    private static void rule() {
        ChargePark park = park(0, 0);
        park.plugIn(0, 900, 32, 90);
        park.plugIn(1, 900, 32, 50);
        int[] wrong = {-1, 2, LOWEST, HIGHEST};
        for (int rule : wrong) {
            c.refuses("rule(" + rule + ")", park, OUT_OF_RANGE, () -> park.rule(rule));
        }
        currents("least laxity at first", park, 0, 32);
        c.same("rule", park.rule(FAIR), LEAST_LAXITY);
        currents("fair", park, 16, 16);
        c.same("rule", park.rule(FAIR), FAIR);
        c.same("rule", park.rule(LEAST_LAXITY), FAIR);
        currents("least laxity again", park, 0, 32);
    }

    // promise 6
    private static void plugIn() {
        ChargePark park = park(0, ALL);
        int[] noPoints = {-1, 2, 8, LOWEST, HIGHEST};
        for (int number : noPoints) {
            c.refuses("plugIn(point " + number + ")", park, NO_POINT, () -> park.plugIn(number, 1, 1, 1));
        }
        c.refuses("plugIn: no point comes first", park, NO_POINT, () -> park.plugIn(2, 0, 0, 0));
        int[] wrongNeeds = {0, 5001, LOWEST, HIGHEST};
        int[] wrongAppetites = {0, 33, LOWEST, HIGHEST};
        int[] wrongSteps = {0, 501, LOWEST, HIGHEST};
        for (int k = 0; k < 4; k++) {
            int need = wrongNeeds[k];
            int appetite = wrongAppetites[k];
            int steps = wrongSteps[k];
            c.refuses("plugIn(need " + need + ")", park, OUT_OF_RANGE, () -> park.plugIn(0, need, 1, 1));
            c.refuses("plugIn(appetite " + appetite + ")", park, OUT_OF_RANGE, () -> park.plugIn(0, 1, appetite, 1));
            c.refuses("plugIn(steps " + steps + ")", park, OUT_OF_RANGE, () -> park.plugIn(0, 1, 1, steps));
        }
        c.same("plugIn: 5000 units by 32 are 157 steps", park.plugIn(0, 5000, 32, 500), 343);
        c.same("plugIn: least of all", park.plugIn(1, 1, 1, 1), 0);
        c.refuses("plugIn: a car is there", park, NOT_NOW, () -> park.plugIn(0, 5, 5, 5));
        c.refuses("plugIn: range before car", park, OUT_OF_RANGE, () -> park.plugIn(0, 0, 5, 5));
        park.step(3);
        park.takeOut(1);
        c.same("plugIn: 5000 units by 3 are 1667 steps", park.plugIn(1, 5000, 1, 10), -1657);
        c.same("plugIn: it leaves from now on", park.left(1), 10);
        c.same("plugIn: need", park.need(1), 5000);
    }

    // promise 7
    private static void takeOut() {
        ChargePark park = park(0, 0);
        park.plugIn(0, 40, 32, 9);
        int[] noPoints = {-1, 2, LOWEST, HIGHEST};
        for (int number : noPoints) {
            c.refuses("takeOut(" + number + ")", park, NO_POINT, () -> park.takeOut(number));
        }
        c.refuses("takeOut: no car", park, NOT_NOW, () -> park.takeOut(1));
        park.step(1);
        c.same("takeOut: need that is left", park.takeOut(0), 8);
        c.same("takeOut: not served", park.served(), 0);
        c.refuses("takeOut: it is out", park, NOT_NOW, () -> park.takeOut(0));
        c.same("takeOut: nothing is given", park.current(0), 0);
        park.plugIn(0, 10, 32, 9);
        park.step(1);
        c.same("takeOut: need done", park.takeOut(0), 0);
        c.same("takeOut: served", park.served(), 1);
        c.same("takeOut: the units stay taken", park.taken(), 42);
    }

    // promise 8
    private static void appetite() {
        ChargePark park = park(0, 0);
        park.plugIn(0, 100, 20, 10);
        int[] noPoints = {-1, 2, LOWEST, HIGHEST};
        for (int number : noPoints) {
            c.refuses("appetite(point " + number + ")", park, NO_POINT, () -> park.appetite(number, 5));
        }
        int[] wrong = {0, 33, LOWEST, HIGHEST};
        for (int value : wrong) {
            c.refuses("appetite(" + value + ")", park, OUT_OF_RANGE, () -> park.appetite(0, value));
            c.refuses("appetite: range before car", park, OUT_OF_RANGE, () -> park.appetite(1, value));
        }
        c.refuses("appetite: no point comes first", park, NO_POINT, () -> park.appetite(2, 0));
        c.refuses("appetite: no car", park, NOT_NOW, () -> park.appetite(1, 5));
        c.same("appetite", park.appetite(0, 1), 20);
        currents("appetite of 1", park, 1);
        c.same("appetite: laxity follows", park.laxity(0), -90);
        c.same("appetite", park.appetite(0, 32), 1);
        currents("appetite of 32", park, 32);
        c.same("appetite", park.appetite(0, 32), 32);
    }

    // promise 9
    private static void stay() {
        ChargePark park = park(0, 0);
        park.plugIn(0, 5000, 32, 2);
        int[] noPoints = {-1, 2, LOWEST, HIGHEST};
        for (int number : noPoints) {
            c.refuses("stay(point " + number + ")", park, NO_POINT, () -> park.stay(number, 5));
        }
        int[] wrong = {0, 501, LOWEST, HIGHEST};
        for (int steps : wrong) {
            c.refuses("stay(" + steps + ")", park, OUT_OF_RANGE, () -> park.stay(0, steps));
            c.refuses("stay: range before car", park, OUT_OF_RANGE, () -> park.stay(1, steps));
        }
        c.refuses("stay: no point comes first", park, NO_POINT, () -> park.stay(2, 0));
        c.refuses("stay: no car", park, NOT_NOW, () -> park.stay(1, 5));
        c.same("stay: later by the steps", park.stay(0, 1), 3);
        park.step(3);
        c.same("stay: none left", park.left(0), 0);
        c.same("stay: just at its step", park.stay(0, 2), 2);
        park.step(9);
        c.same("stay: need is left behind the step", park.need(0), 5000 - 5 * 32);
        c.same("stay: long behind its step", park.stay(0, 4), 4);
        currents("stay: it is given again", park, 32);
        c.same("stay: the most", park.stay(0, 500), 504);
    }

    // promise 10
    private static void step() {
        ChargePark park = park(0, ALL);
        int[] wrong = {0, 51, -1, LOWEST, HIGHEST};
        for (int steps : wrong) {
            c.refuses("step(" + steps + ")", park, OUT_OF_RANGE, () -> park.step(steps));
        }
        c.same("step: nobody there", park.step(50), 0);
        park.plugIn(1, 10, 32, 5);
        currents("step: 4 amperes for 10 units at ALL", park, 0, 4);
        c.same("step: no more than the need", park.step(1), 10);
        c.same("step: need is done", park.need(1), 0);
        park.takeOut(1);
        park.plugIn(0, 100, 30, 3);
        c.same("step: three steps of 30, then it leaves", park.step(50), 90);
        c.same("step: time", park.time(), 101);
        park.takeOut(0);
        sharesEachStepAnew();
    }

    private static void sharesEachStepAnew() {
        ChargePark park = park(0, 0);
        park.plugIn(0, 40, 32, 9);
        park.plugIn(1, 50, 32, 9);
        currents("laxity 7 of both, the lower point first", park, 32, 0);
        c.same("step 1", park.step(1), 32);
        currents("laxity 7 and 6, the second point first", park, 0, 32);
        c.same("steps 2 and 3", park.step(2), 32 + 8 + 18);
        c.same("both are done", park.need(0) + park.need(1), 0);
        ChargePark slow = park(0, ALL);
        slow.plugIn(0, 3, 1, 9);
        slow.plugIn(1, 4, 1, 9);
        c.same("step: 1 unit, and 3 at ALL", slow.step(1), 4);
        c.same("step: 1 unit, and the last one at ALL", slow.step(1), 2);
        c.same("step: a need of 1", slow.step(1), 1);
        c.same("step: nothing more", slow.step(1), 0);
    }

    // promises 11 and 12
    private static void timeAndPoints() {
        ChargePark park = new ChargePark();
        park.step(1);
        c.same("time", park.time(), 1);
        park.step(50);
        park.step(7);
        c.same("time", park.time(), 58);
        for (int number = 0; number < 8; number++) {
            c.same("points", park.points(), number);
            park.point(number % 4, 10);
        }
        c.same("points", park.points(), 8);
        c.same("time stands but for steps", park.time(), 58);
    }

    // promises 13 and 14
    private static void takenAndServed() {
        ChargePark park = park(0, 1, ALL);
        park.fuse(0, 100);
        park.fuse(1, 100);
        park.fuse(2, 100);
        park.plugIn(0, 20, 20, 5);
        park.plugIn(1, 5000, 20, 5);
        park.plugIn(2, 95, 16, 5);
        park.step(1);
        c.same("taken", park.taken(), 20 + 20 + 48);
        park.step(1);
        c.same("taken", park.taken(), 20 + 40 + 95);
        c.same("served: none is out", park.served(), 0);
        park.takeOut(0);
        c.same("served", park.served(), 1);
        park.takeOut(1);
        c.same("served: need was left", park.served(), 1);
        park.takeOut(2);
        c.same("served", park.served(), 2);
        c.same("taken: also of those that are out", park.taken(), 155);
    }

    // promises 15 and 16
    private static void needAndLeft() {
        ChargePark park = park(0, 0);
        int[] noPoints = {-1, 2, LOWEST, HIGHEST};
        for (int number : noPoints) {
            c.refuses("need(" + number + ")", park, NO_POINT, () -> park.need(number));
            c.refuses("left(" + number + ")", park, NO_POINT, () -> park.left(number));
        }
        c.same("need: no car", park.need(1), NONE);
        c.same("left: no car", park.left(1), NONE);
        park.plugIn(1, 70, 30, 4);
        c.same("need", park.need(1), 70);
        c.same("left", park.left(1), 4);
        park.step(1);
        c.same("need", park.need(1), 40);
        c.same("left", park.left(1), 3);
        park.step(2);
        c.same("need: done", park.need(1), 0);
        c.same("left", park.left(1), 1);
        park.step(1);
        c.same("left: at its step", park.left(1), 0);
        park.step(20);
        c.same("left: at least 0", park.left(1), 0);
        c.same("need: the car is still there", park.need(1), 0);
        park.takeOut(1);
        c.same("need: out", park.need(1), NONE);
        c.same("left: out", park.left(1), NONE);
    }

    // promise 17
    private static void laxity() {
        ChargePark park = new ChargePark();
        park.point(0, 10);
        park.point(ALL, 10);
        park.point(1, 10);
        int[] noPoints = {-1, 3, LOWEST, HIGHEST};
        for (int number : noPoints) {
            c.refuses("laxity(" + number + ")", park, NO_POINT, () -> park.laxity(number));
        }
        c.refuses("laxity: no car", park, NOT_NOW, () -> park.laxity(0));
        park.plugIn(0, 100, 32, 12);
        c.same("laxity: the point bounds", park.laxity(0), 2);
        park.appetite(0, 9);
        c.same("laxity: the appetite bounds, rounded up", park.laxity(0), 0);
        park.plugIn(1, 61, 32, 2);
        c.same("laxity: at ALL three times as many", park.laxity(1), -1);
        park.plugIn(2, 10, 10, 3);
        park.step(1);
        c.same("laxity: need done, all that is left", park.laxity(2), 2);
        park.step(9);
        c.same("laxity: never below 0 with need done", park.laxity(2), 0);
    }

    // promise 18
    private static void reach() {
        ChargePark park = new ChargePark();
        park.point(0, 10);
        park.point(ALL, 10);
        int[] noPoints = {-1, 2, LOWEST, HIGHEST};
        for (int number : noPoints) {
            c.refuses("reach(" + number + ")", park, NO_POINT, () -> park.reach(number));
        }
        c.same("reach: no car", park.reach(0), 0);
        park.plugIn(0, 5000, 32, 9);
        c.same("reach: the point's greatest", park.reach(0), 10);
        park.appetite(0, 4);
        c.same("reach: the appetite", park.reach(0), 4);
        park.fuse(0, 0);
        c.same("reach: whatever the fuse is", park.reach(0), 4);
        park.step(9);
        c.same("reach: no steps left", park.reach(0), 0);
        park.fuse(0, 32);
        park.takeOut(0);
        park.plugIn(0, 3, 32, 9);
        c.same("reach: the need", park.reach(0), 3);
        park.plugIn(1, 28, 32, 9);
        c.same("reach: a third of it, rounded up", park.reach(1), 10);
        park.takeOut(1);
        park.plugIn(1, 24, 32, 9);
        c.same("reach: a third of it", park.reach(1), 8);
        park.takeOut(1);
        park.plugIn(1, 25, 32, 9);
        c.same("reach: a third of it, rounded up", park.reach(1), 9);
        park.step(1);
        c.same("reach: need done", park.reach(0), 0);
        c.same("reach: need done", park.reach(1), 0);
        park.takeOut(0);
        park.takeOut(1);
        park.plugIn(0, 1, 32, 1);
        park.plugIn(1, 1, 32, 1);
        c.same("reach: a need of 1", park.reach(0), 1);
        c.same("reach: a need of 1 at ALL", park.reach(1), 1);
    }

    // promise 19, the rule LEAST_LAXITY
    private static void currentByLaxity() {
        ChargePark park = park(0, 0, ALL, 1);
        int[] noPoints = {-1, 4, LOWEST, HIGHEST};
        for (int number : noPoints) {
            c.refuses("current(" + number + ")", park, NO_POINT, () -> park.current(number));
        }
        currents("no cars", park, 0, 0, 0, 0);
        park.plugIn(0, 200, 20, 20);
        park.plugIn(1, 200, 20, 20);
        currents("same laxity, the lower point first", park, 20, 12, 0, 0);
        park.appetite(1, 19);
        currents("less laxity first", park, 13, 19, 0, 0);
        park.plugIn(3, 200, 30, 20);
        park.plugIn(2, 900, 5, 1);
        currents("at ALL first, in each phase", park, 8, 19, 5, 27);
        park.stay(2, 500);
        currents("at ALL last, the least room of the phases", park, 13, 19, 0, 30);
        park.fuse(0, 100);
        currents("at ALL last, the room of another phase", park, 20, 19, 2, 30);
        park.fuse(2, 1);
        currents("at ALL last, the room of the third phase", park, 20, 19, 1, 30);
    }

    // promise 19, the rule FAIR
    private static void currentByFairness() {
        ChargePark park = park(0, 0, 0, ALL, 2);
        park.rule(FAIR);
        park.plugIn(0, 4, 32, 9);
        park.plugIn(1, 900, 32, 9);
        park.plugIn(2, 900, 32, 9);
        currents("4 to the first, 14 to each of the others", park, 4, 14, 14);
        park.fuse(0, 33);
        currents("the odd one to the lower point", park, 4, 15, 14);
        park.plugIn(3, 900, 32, 9);
        currents("at ALL it shares in the narrowest phase", park, 4, 10, 10, 9);
        park.fuse(2, 3);
        park.plugIn(4, 900, 32, 9);
        currents("one at ALL is passed over by another phase", park, 4, 14, 13, 2, 1);
        park.fuse(1, 0);
        currents("no room for the one at ALL", park, 4, 15, 14, 0, 3);
        park.appetite(0, 2);
        currents("the appetite bounds", park, 2, 16, 15, 0, 3);
        ChargePark full = park(0, 0, 0, 1, 1, 1, 2, 2);
        full.rule(FAIR);
        for (int point = 0; point < 8; point++) {
            full.plugIn(point, 5000, 32, 9);
        }
        currents("eight points", full, 11, 11, 10, 11, 11, 10, 16, 16);
        full.takeOut(7);
        currents("all that a fuse allows to one", full, 11, 11, 10, 11, 11, 10, 32, 0);
    }

    // promise 19, the balance
    private static void currentInBalance() {
        ChargePark park = park(0, 0, 1, ALL);
        park.plugIn(0, 900, 12, 40);
        park.plugIn(1, 900, 12, 40);
        currents("no balance yet", park, 12, 12);
        park.balance(15);
        currents("taken from the higher point of two, then from the most", park, 8, 7);
        park.appetite(1, 4);
        currents("taken from the one that is given most", park, 11, 4);
        park.balance(3);
        currents("down to 3 in all", park, 2, 1);
        park.plugIn(2, 900, 10, 40);
        park.appetite(1, 12);
        currents("two phases are cut, down to 3 above the third", park, 2, 1, 3);
        park.plugIn(3, 900, 6, 40);
        currents("what is at ALL is not taken", park, 2, 1, 3, 6);
        park.takeOut(2);
        currents("9 amperes in one phase, 6 in the others", park, 2, 1, 0, 6);
        currentsOfSeveralPhases();
    }

    private static void currentsOfSeveralPhases() {
        ChargePark park = park(2, 1, 0);
        park.plugIn(0, 900, 8, 40);
        park.plugIn(1, 900, 8, 40);
        park.fuse(2, 5);
        park.balance(7);
        currents("only the phase with the greatest current gives up", park, 5, 7, 0);
        park.balance(0);
        currents("all are given up", park, 0, 0, 0);
        park.plugIn(2, 2, 8, 40);
        currents("as much as the least", park, 2, 2, 2);
    }

    // promise 20
    private static void load() {
        ChargePark park = park(0, 0, 1, ALL);
        int[] wrong = {-1, 3, LOWEST, HIGHEST};
        for (int phase : wrong) {
            c.refuses("load(" + phase + ")", park, OUT_OF_RANGE, () -> park.load(phase));
        }
        park.plugIn(0, 900, 7, 40);
        park.plugIn(1, 900, 5, 40);
        park.plugIn(2, 900, 4, 40);
        park.plugIn(3, 900, 3, 40);
        c.same("load", park.load(0), 15);
        c.same("load", park.load(1), 7);
        c.same("load", park.load(2), 3);
        park.balance(10);
        c.same("load in balance", park.load(0), 13);
        park.step(40);
        c.same("load: all have left", park.load(0) + park.load(1) + park.load(2), 0);
    }

    // promise 21
    private static void imbalance() {
        ChargePark park = park(0, 1, 2, ALL);
        park.plugIn(3, 900, 6, 40);
        c.same("imbalance: at ALL", park.imbalance(), 0);
        park.plugIn(1, 900, 9, 40);
        c.same("imbalance", park.imbalance(), 9);
        park.plugIn(0, 900, 5, 40);
        c.same("imbalance: the most of three pairs", park.imbalance(), 9);
        park.plugIn(2, 900, 2, 40);
        c.same("imbalance: the most of three pairs", park.imbalance(), 7);
        park.balance(4);
        c.same("imbalance in balance", park.imbalance(), 4);
        park.takeOut(1);
        c.same("imbalance: phase 0 against 1", park.imbalance(), 4);
        park.takeOut(0);
        c.same("imbalance: phase 2 against the others", park.imbalance(), 2);
    }

    // promise 22
    private static void held() {
        ChargePark park = park(0, 0, 0, 1, 1, 2, 2, 0);
        for (int point = 0; point < 8; point++) {
            park.plugIn(point, 900, 16, 60);
        }
        c.same("held: 16 and 16 of each phase, none for 2 and 7", park.held(), 1 << 2 | 1 << 7);
        park.fuse(1, 31);
        c.same("held: one ampere less", park.held(), 1 << 2 | 1 << 7 | 1 << 4);
        park.balance(0);
        c.same("held: by the balance", park.held(), 1 << 2 | 1 << 7 | 1 << 4 | 1 << 1 | 1 << 6);
        park.balance(100);
        park.takeOut(0);
        park.takeOut(4);
        c.same("held: no car, none held", park.held(), 1 << 7);
        park.step(50);
        park.step(10);
        c.same("held: no steps left, reach is 0", park.held(), 0);
        ChargePark dark = park(0, ALL);
        dark.fuse(0, 0);
        dark.plugIn(0, 1, 1, 1);
        dark.plugIn(1, 1, 1, 1);
        c.same("held: the first point too", dark.held(), 1 | 2);
    }

    // promise 23
    private static void fairLevel() {
        ChargePark park = park(0, 0, 0, ALL);
        int[] wrong = {-1, 3, LOWEST, HIGHEST};
        for (int phase : wrong) {
            c.refuses("fairLevel(" + phase + ")", park, OUT_OF_RANGE, () -> park.fairLevel(phase));
        }
        park.plugIn(0, 900, 20, 9);
        park.plugIn(1, 900, 12, 9);
        c.same("fairLevel: reaches just used up", park.fairLevel(0), NONE);
        park.fuse(0, 31);
        c.same("fairLevel: one less than the reaches", park.fairLevel(0), 19000);
        park.plugIn(2, 5, 20, 9);
        c.same("fairLevel: 26 for 20 and 12, above them 5", park.fairLevel(0), 14000);
        park.fuse(0, 20);
        c.same("fairLevel: 15 for two", park.fairLevel(0), 7500);
        park.fuse(0, 10);
        c.same("fairLevel: 10 for three, rounded down", park.fairLevel(0), 3333);
        park.fuse(0, 11);
        c.same("fairLevel: 11 for three, rounded down", park.fairLevel(0), 3666);
        park.fuse(0, 0);
        c.same("fairLevel: nothing to share", park.fairLevel(0), 0);
        park.fuse(0, 1);
        c.same("fairLevel: below 1", park.fairLevel(0), 333);
        park.fuse(0, 2);
        c.same("fairLevel: below 1", park.fairLevel(0), 666);
        park.fuse(0, 13);
        park.plugIn(3, 5000, 3, 1);
        c.same("fairLevel: less what is given at ALL", park.fairLevel(0), 3333);
        c.same("fairLevel: nobody at it alone", park.fairLevel(1), NONE);
        park.fuse(1, 0);
        c.same("fairLevel: nobody, nothing to share", park.fairLevel(1), NONE);
        c.same("fairLevel: then ALL is given nothing", park.fairLevel(0), 4333);
        park.balance(0);
        c.same("fairLevel: whatever the balance is", park.fairLevel(0), 4333);
        park.step(9);
        c.same("fairLevel: none is to be given something", park.fairLevel(0), NONE);
        ChargePark allFirst = park(ALL, 0);
        allFirst.plugIn(0, 900, 10, 1);
        allFirst.plugIn(1, 900, 30, 90);
        c.same("fairLevel: the first point is at ALL", allFirst.fairLevel(0), 22000);
        allFirst.rule(FAIR);
        c.same("fairLevel: by the currents of the rule", allFirst.fairLevel(0), 22000);
        allFirst.appetite(0, 30);
        c.same("fairLevel: by the currents of the rule", allFirst.fairLevel(0), 16000);
        allFirst.rule(LEAST_LAXITY);
        c.same("fairLevel: by the currents of the rule", allFirst.fairLevel(0), 2000);
        allFirst.fuse(0, 64);
        allFirst.appetite(1, 32);
        c.same("fairLevel: the greatest reach is given", allFirst.fairLevel(0), NONE);
        allFirst.fuse(0, 61);
        c.same("fairLevel: one less than the greatest reach", allFirst.fairLevel(0), 31000);
    }

    // promise 24
    private static void canBeReady() {
        ChargePark park = park(0, ALL);
        c.yes("canBeReady: no cars", park.canBeReady());
        park.plugIn(0, 320, 32, 10);
        c.yes("canBeReady: laxity 0", park.canBeReady());
        park.fuse(0, 0);
        c.yes("canBeReady: whatever the fuses are", park.canBeReady());
        park.step(1);
        c.no("canBeReady: laxity -1", park.canBeReady());
        park.stay(0, 1);
        c.yes("canBeReady: it stays longer", park.canBeReady());
        park.plugIn(1, 97, 32, 1);
        c.no("canBeReady: the second one", park.canBeReady());
        park.takeOut(1);
        c.yes("canBeReady: it is out", park.canBeReady());
        park.fuse(0, 32);
        park.step(10);
        c.same("canBeReady: done", park.need(0), 0);
        park.step(5);
        c.yes("canBeReady: need done, step of leaving past", park.canBeReady());
        park.plugIn(1, 2, 1, 1);
        park.fuse(0, 0);
        park.step(3);
        c.no("canBeReady: a need, step of leaving past", park.canBeReady());
        park.takeOut(1);
        park.plugIn(1, 1, 1, 1);
        park.step(1);
        c.no("canBeReady: a need of 1, step of leaving past", park.canBeReady());
    }
}
