/**
 * The bounds of each argument, one test for each end: the least value that is taken (with what it then does) and the
 * one below it, the greatest and the one above it; and, for each argument, the values far outside.
 */
public final class BoundsTest {
    private static final int NONE = ChargePark.NONE;
    private static final int ALL = ChargePark.ALL;
    private static final int LEAST_LAXITY = ChargePark.LEAST_LAXITY;
    private static final int FAIR = ChargePark.FAIR;
    private static final int[] FAR = {Integer.MIN_VALUE, Integer.MIN_VALUE + 1, -1_000_000, -257, 257, 65_536, 1_000_000,
        Integer.MAX_VALUE - 1, Integer.MAX_VALUE};
    private static final Checks c = new Checks("BoundsTest");

    public static void main(String[] args) {
        phaseOfPoint();
        greatestOfPoint();
        phaseOfFuse();
        amperesOfFuse();
        balanceAndRule();
        pointOfPlugIn();
        needOfPlugIn();
        appetiteOfPlugIn();
        stepsOfPlugIn();
        pointOfCallsOnCars();
        appetiteOfAppetite();
        stepsOfStay();
        stepsOfStep();
        pointOfQuestions();
        phaseOfQuestions();
        c.end();
    }

    /** Three points, two with cars, at the time 2; every bound and the rule are other than at first. */
    private static ChargePark used() {
        ChargePark park = new ChargePark();
        park.point(0, 32);
        park.point(ALL, 20);
        park.point(2, 6);
        park.fuse(0, 40);
        park.fuse(1, 25);
        park.fuse(2, 33);
        park.balance(8);
        park.rule(FAIR);
        park.plugIn(0, 300, 16, 40);
        park.plugIn(1, 400, 12, 30);
        park.step(2);
        return park;
    }

    /** A new park with one point of 32 amperes at each of these phases. */
    private static ChargePark park(int... phases) {
        ChargePark park = new ChargePark();
        for (int phase : phases) {
            park.point(phase, 32);
        }
        return park;
    }

    private static void noSuchPoint(String what, Checks.Call call) {
        c.leavesAsItWas(what, BoundsTest::used, IndexOutOfBoundsException.class, call);
    }

    private static void outOfRange(String what, Checks.Call call) {
        c.leavesAsItWas(what, BoundsTest::used, IllegalArgumentException.class, call);
    }

    private static void loads(String what, ChargePark park, int first, int second, int third) {
        c.same(what + ": load(0)", park.load(0), first);
        c.same(what + ": load(1)", park.load(1), second);
        c.same(what + ": load(2)", park.load(2), third);
    }

    // ---- promise 2

    private static void phaseOfPoint() {
        leastPhaseOfPoint();
        greatestSinglePhaseOfPoint();
        greatestPhaseOfPoint();
        for (int phase : FAR) {
            outOfRange("point(" + phase + ", 20)", p -> p.point(phase, 20));
        }
    }

    private static void leastPhaseOfPoint() {
        ChargePark park = new ChargePark();
        c.same("point(0, 20)", park.point(0, 20), 0);
        park.plugIn(0, 900, 20, 9);
        loads("a point at 0", park, 20, 0, 0);
        outOfRange("point(-1, 20)", p -> p.point(-1, 20));
    }

    private static void greatestSinglePhaseOfPoint() {
        ChargePark park = new ChargePark();
        c.same("point(2, 20)", park.point(2, 20), 0);
        park.plugIn(0, 900, 20, 9);
        loads("a point at 2", park, 0, 0, 20);
    }

    private static void greatestPhaseOfPoint() {
        ChargePark park = new ChargePark();
        c.same("point(ALL, 20)", park.point(ALL, 20), 0);
        park.plugIn(0, 900, 20, 9);
        loads("a point at ALL", park, 20, 20, 20);
        outOfRange("point(4, 20)", p -> p.point(4, 20));
    }

    private static void greatestOfPoint() {
        leastGreatestOfPoint();
        mostGreatestOfPoint();
        for (int greatest : FAR) {
            outOfRange("point(1, " + greatest + ")", p -> p.point(1, greatest));
        }
    }

    private static void leastGreatestOfPoint() {
        ChargePark park = new ChargePark();
        c.same("point(0, 6)", park.point(0, 6), 0);
        park.plugIn(0, 900, 32, 9);
        c.same("point(0, 6): reach", park.reach(0), 6);
        outOfRange("point(1, 5)", p -> p.point(1, 5));
        outOfRange("point(1, 0)", p -> p.point(1, 0));
    }

    private static void mostGreatestOfPoint() {
        ChargePark park = new ChargePark();
        c.same("point(0, 32)", park.point(0, 32), 0);
        park.plugIn(0, 900, 32, 9);
        c.same("point(0, 32): reach", park.reach(0), 32);
        outOfRange("point(1, 33)", p -> p.point(1, 33));
    }

    // ---- promise 3

    private static void phaseOfFuse() {
        leastPhaseOfFuse();
        greatestPhaseOfFuse();
        for (int phase : FAR) {
            outOfRange("fuse(" + phase + ", 20)", p -> p.fuse(phase, 20));
        }
    }

    private static void leastPhaseOfFuse() {
        ChargePark park = parkWithACarAtEachPhase();
        c.same("fuse(0, 5)", park.fuse(0, 5), 32);
        loads("fuse(0, 5)", park, 5, 20, 20);
        outOfRange("fuse(-1, 20)", p -> p.fuse(-1, 20));
    }

    private static void greatestPhaseOfFuse() {
        ChargePark park = parkWithACarAtEachPhase();
        c.same("fuse(2, 5)", park.fuse(2, 5), 32);
        loads("fuse(2, 5)", park, 20, 20, 5);
        outOfRange("fuse(3, 20): ALL is no phase with a fuse", p -> p.fuse(ALL, 20));
        outOfRange("fuse(4, 20)", p -> p.fuse(4, 20));
    }

    private static ChargePark parkWithACarAtEachPhase() {
        ChargePark park = park(0, 1, 2);
        for (int point = 0; point < 3; point++) {
            park.plugIn(point, 900, 20, 9);
        }
        return park;
    }

    private static void amperesOfFuse() {
        leastFuse();
        greatestFuse();
        for (int amperes : FAR) {
            outOfRange("fuse(1, " + amperes + ")", p -> p.fuse(1, amperes));
        }
    }

    private static void leastFuse() {
        ChargePark park = parkWithACarAtEachPhase();
        c.same("fuse(1, 0)", park.fuse(1, 0), 32);
        loads("fuse(1, 0)", park, 20, 0, 20);
        c.same("fuse(1, 1): before", park.fuse(1, 1), 0);
        loads("fuse(1, 1)", park, 20, 1, 20);
        outOfRange("fuse(1, -1)", p -> p.fuse(1, -1));
    }

    private static void greatestFuse() {
        ChargePark park = park(1, 1, 1, 1);
        for (int point = 0; point < 4; point++) {
            park.plugIn(point, 900, 32, 90);
        }
        c.same("fuse(1, 100)", park.fuse(1, 100), 32);
        loads("fuse(1, 100)", park, 0, 100, 0);
        c.same("fuse(1, 99): before", park.fuse(1, 99), 100);
        loads("fuse(1, 99)", park, 0, 99, 0);
        outOfRange("fuse(1, 101)", p -> p.fuse(1, 101));
    }

    // ---- promises 4 and 5

    private static void balanceAndRule() {
        leastBalance();
        greatestBalance();
        leastRule();
        greatestRule();
        for (int value : FAR) {
            outOfRange("balance(" + value + ")", p -> p.balance(value));
            outOfRange("rule(" + value + ")", p -> p.rule(value));
        }
    }

    private static void leastBalance() {
        ChargePark park = park(0);
        park.plugIn(0, 900, 32, 90);
        c.same("balance(0)", park.balance(0), 100);
        c.same("balance(0): imbalance", park.imbalance(), 0);
        c.same("balance(1): before", park.balance(1), 0);
        c.same("balance(1): imbalance", park.imbalance(), 1);
        outOfRange("balance(-1)", p -> p.balance(-1));
    }

    private static void greatestBalance() {
        ChargePark park = park(0, 0, 0, 0);
        park.fuse(0, 100);
        for (int point = 0; point < 4; point++) {
            park.plugIn(point, 900, 32, 90);
        }
        c.same("balance(99)", park.balance(99), 100);
        c.same("balance(99): imbalance", park.imbalance(), 99);
        c.same("balance(100): before", park.balance(100), 99);
        c.same("balance(100): imbalance", park.imbalance(), 100);
        outOfRange("balance(101)", p -> p.balance(101));
    }

    private static ChargePark parkWithTwoCars() {
        ChargePark park = park(0, 0);
        park.plugIn(0, 900, 32, 90);
        park.plugIn(1, 900, 32, 50);
        return park;
    }

    private static void leastRule() {
        ChargePark park = parkWithTwoCars();
        c.same("rule(0), it stands already", park.rule(0), LEAST_LAXITY);
        c.same("rule(0): the one with more laxity", park.current(0), 0);
        c.same("rule(0): the one with less laxity", park.current(1), 32);
        outOfRange("rule(-1)", p -> p.rule(-1));
    }

    private static void greatestRule() {
        ChargePark park = parkWithTwoCars();
        c.same("rule(1)", park.rule(1), LEAST_LAXITY);
        c.same("rule(1): half for the one", park.current(0), 16);
        c.same("rule(1): half for the other", park.current(1), 16);
        c.same("rule(1), it stands already", park.rule(1), FAIR);
        outOfRange("rule(2)", p -> p.rule(2));
    }

    // ---- promise 6

    private static void pointOfPlugIn() {
        leastPointOfPlugIn();
        greatestPointOfPlugIn();
        lastOfEightPointsOfPlugIn();
        for (int point : FAR) {
            noSuchPoint("plugIn(" + point + ", 9, 9, 9)", p -> p.plugIn(point, 9, 9, 9));
        }
    }

    private static void leastPointOfPlugIn() {
        ChargePark park = park(0, 0, 0);
        c.same("plugIn(0, 9, 9, 9)", park.plugIn(0, 9, 9, 9), 8);
        c.same("plugIn(0, 9, 9, 9): need", park.need(0), 9);
        c.same("plugIn(0, 9, 9, 9): no other car", park.need(1), NONE);
        noSuchPoint("plugIn(-1, 9, 9, 9)", p -> p.plugIn(-1, 9, 9, 9));
    }

    private static void greatestPointOfPlugIn() {
        ChargePark park = park(0, 0, 0);
        c.same("plugIn(2, 9, 9, 9)", park.plugIn(2, 9, 9, 9), 8);
        c.same("plugIn(2, 9, 9, 9): need", park.need(2), 9);
        c.same("plugIn(2, 9, 9, 9): no other car", park.need(1), NONE);
        noSuchPoint("plugIn(3, 9, 9, 9): there are three points", p -> p.plugIn(3, 9, 9, 9));
        noSuchPoint("plugIn(7, 9, 9, 9): there are three points", p -> p.plugIn(7, 9, 9, 9));
    }

    private static ChargePark fullOfPoints() {
        return park(0, 1, 2, ALL, 0, 1, 2, ALL);
    }

    private static void lastOfEightPointsOfPlugIn() {
        c.same("plugIn(7, 9, 9, 9)", fullOfPoints().plugIn(7, 9, 9, 9), 8);
        c.leavesAsItWas("plugIn(8, 9, 9, 9)", BoundsTest::fullOfPoints, IndexOutOfBoundsException.class,
            p -> p.plugIn(8, 9, 9, 9));
    }

    private static void needOfPlugIn() {
        leastNeed();
        greatestNeed();
        for (int need : FAR) {
            if (need < 1 || need > 5000) {
                outOfRange("plugIn(2, " + need + ", 9, 9)", p -> p.plugIn(2, need, 9, 9));
            }
        }
    }

    private static void leastNeed() {
        ChargePark park = park(0);
        c.same("plugIn(0, 1, 9, 9)", park.plugIn(0, 1, 9, 9), 8);
        c.same("plugIn(0, 1, 9, 9): need", park.need(0), 1);
        c.same("plugIn(0, 1, 9, 9): one unit is all", park.step(9), 1);
        outOfRange("plugIn(2, 0, 9, 9)", p -> p.plugIn(2, 0, 9, 9));
        outOfRange("plugIn(2, -1, 9, 9)", p -> p.plugIn(2, -1, 9, 9));
    }

    private static void greatestNeed() {
        ChargePark park = park(0);
        c.same("plugIn(0, 5000, 32, 157)", park.plugIn(0, 5000, 32, 157), 0);
        c.same("plugIn(0, 5000, 32, 157): need", park.need(0), 5000);
        for (int k = 0; k < 3; k++) {
            c.same("plugIn(0, 5000, 32, 157): 50 steps", park.step(50), 1600);
        }
        c.same("plugIn(0, 5000, 32, 157): six more steps", park.step(6), 192);
        c.same("plugIn(0, 5000, 32, 157): the last step", park.step(1), 8);
        outOfRange("plugIn(2, 5001, 9, 9)", p -> p.plugIn(2, 5001, 9, 9));
    }

    private static void appetiteOfPlugIn() {
        leastAppetite();
        greatestAppetite();
        for (int appetite : FAR) {
            outOfRange("plugIn(2, 9, " + appetite + ", 9)", p -> p.plugIn(2, 9, appetite, 9));
        }
    }

    private static void leastAppetite() {
        ChargePark park = park(0);
        c.same("plugIn(0, 9, 1, 9)", park.plugIn(0, 9, 1, 9), 0);
        c.same("plugIn(0, 9, 1, 9): reach", park.reach(0), 1);
        c.same("plugIn(0, 9, 1, 9): appetite before", park.appetite(0, 2), 1);
        outOfRange("plugIn(2, 9, 0, 9)", p -> p.plugIn(2, 9, 0, 9));
        outOfRange("plugIn(2, 9, -1, 9)", p -> p.plugIn(2, 9, -1, 9));
    }

    private static void greatestAppetite() {
        ChargePark park = park(0);
        c.same("plugIn(0, 320, 32, 9)", park.plugIn(0, 320, 32, 9), -1);
        c.same("plugIn(0, 320, 32, 9): reach", park.reach(0), 32);
        c.same("plugIn(0, 320, 32, 9): appetite before", park.appetite(0, 31), 32);
        outOfRange("plugIn(2, 9, 33, 9)", p -> p.plugIn(2, 9, 33, 9));
    }

    private static void stepsOfPlugIn() {
        leastStepsOfPlugIn();
        greatestStepsOfPlugIn();
        for (int steps : FAR) {
            if (steps < 1 || steps > 500) {
                outOfRange("plugIn(2, 9, 9, " + steps + ")", p -> p.plugIn(2, 9, 9, steps));
            }
        }
    }

    private static void leastStepsOfPlugIn() {
        ChargePark park = park(0);
        c.same("plugIn(0, 9, 5, 1)", park.plugIn(0, 9, 5, 1), -1);
        c.same("plugIn(0, 9, 5, 1): left", park.left(0), 1);
        c.same("plugIn(0, 9, 5, 1): one step is all", park.step(9), 5);
        outOfRange("plugIn(2, 9, 9, 0)", p -> p.plugIn(2, 9, 9, 0));
        outOfRange("plugIn(2, 9, 9, -1)", p -> p.plugIn(2, 9, 9, -1));
    }

    private static void greatestStepsOfPlugIn() {
        ChargePark park = park(0);
        c.same("plugIn(0, 5000, 1, 500)", park.plugIn(0, 5000, 1, 500), -4500);
        c.same("plugIn(0, 5000, 1, 500): left", park.left(0), 500);
        for (int k = 0; k < 10; k++) {
            c.same("plugIn(0, 5000, 1, 500): 50 steps", park.step(50), 50);
        }
        c.same("plugIn(0, 5000, 1, 500): none left", park.step(1), 0);
        outOfRange("plugIn(2, 9, 9, 501)", p -> p.plugIn(2, 9, 9, 501));
    }

    // ---- promises 7 to 9

    private static void pointOfCallsOnCars() {
        leastPointOfCallsOnCars();
        greatestPointOfCallsOnCars();
        lastOfEightPointsOfCallsOnCars();
        for (int point : FAR) {
            noSuchPointOfCallsOnCars(point);
        }
    }

    private static void noSuchPointOfCallsOnCars(int point) {
        noSuchPoint("takeOut(" + point + ")", p -> p.takeOut(point));
        noSuchPoint("appetite(" + point + ", 9)", p -> p.appetite(point, 9));
        noSuchPoint("stay(" + point + ", 9)", p -> p.stay(point, 9));
    }

    private static void leastPointOfCallsOnCars() {
        ChargePark park = used();
        c.same("appetite(0, 9)", park.appetite(0, 9), 16);
        c.same("stay(0, 9)", park.stay(0, 9), 47);
        c.same("appetite and stay of 0 leave 1 alone", park.left(1), 28);
        c.same("takeOut(0): two steps of 8 are taken", park.takeOut(0), 300 - 16);
        c.same("takeOut(0): 1 is still there", park.need(1), 400 - 2 * 36);
        noSuchPointOfCallsOnCars(-1);
    }

    private static void greatestPointOfCallsOnCars() {
        ChargePark park = used();
        park.plugIn(2, 100, 6, 9);
        c.same("appetite(2, 9)", park.appetite(2, 9), 6);
        c.same("stay(2, 9)", park.stay(2, 9), 18);
        c.same("takeOut(2)", park.takeOut(2), 100);
        noSuchPointOfCallsOnCars(3);
        noSuchPointOfCallsOnCars(7);
    }

    private static ChargePark fullOfCars() {
        ChargePark park = fullOfPoints();
        for (int point = 0; point < 8; point++) {
            park.plugIn(point, 100 + point, 20, 9);
        }
        return park;
    }

    private static void lastOfEightPointsOfCallsOnCars() {
        ChargePark park = fullOfCars();
        c.same("appetite(7, 9)", park.appetite(7, 9), 20);
        c.same("stay(7, 9)", park.stay(7, 9), 18);
        c.same("takeOut(7)", park.takeOut(7), 107);
        Class<IndexOutOfBoundsException> due = IndexOutOfBoundsException.class;
        c.leavesAsItWas("takeOut(8)", BoundsTest::fullOfCars, due, p -> p.takeOut(8));
        c.leavesAsItWas("appetite(8, 9)", BoundsTest::fullOfCars, due, p -> p.appetite(8, 9));
        c.leavesAsItWas("stay(8, 9)", BoundsTest::fullOfCars, due, p -> p.stay(8, 9));
    }

    private static void appetiteOfAppetite() {
        leastOfAppetite();
        greatestOfAppetite();
        for (int appetite : FAR) {
            outOfRange("appetite(0, " + appetite + ")", p -> p.appetite(0, appetite));
        }
    }

    private static void leastOfAppetite() {
        ChargePark park = used();
        c.same("appetite(0, 1)", park.appetite(0, 1), 16);
        c.same("appetite(0, 1): reach", park.reach(0), 1);
        outOfRange("appetite(0, 0)", p -> p.appetite(0, 0));
        outOfRange("appetite(0, -1)", p -> p.appetite(0, -1));
    }

    private static void greatestOfAppetite() {
        ChargePark park = used();
        c.same("appetite(0, 32)", park.appetite(0, 32), 16);
        c.same("appetite(0, 32): reach", park.reach(0), 32);
        c.same("appetite(1, 32)", park.appetite(1, 32), 12);
        c.same("appetite(1, 32): the point's greatest bounds it", park.reach(1), 20);
        outOfRange("appetite(0, 33)", p -> p.appetite(0, 33));
    }

    private static void stepsOfStay() {
        leastStepsOfStay();
        greatestStepsOfStay();
        for (int steps : FAR) {
            if (steps < 1 || steps > 500) {
                outOfRange("stay(0, " + steps + ")", p -> p.stay(0, steps));
            }
        }
    }

    private static void leastStepsOfStay() {
        c.same("stay(0, 1)", used().stay(0, 1), 39);
        outOfRange("stay(0, 0)", p -> p.stay(0, 0));
        outOfRange("stay(0, -1)", p -> p.stay(0, -1));
    }

    private static void greatestStepsOfStay() {
        c.same("stay(0, 500)", used().stay(0, 500), 538);
        outOfRange("stay(0, 501)", p -> p.stay(0, 501));
    }

    // ---- promise 10

    private static void stepsOfStep() {
        leastStep();
        greatestStep();
        for (int steps : FAR) {
            outOfRange("step(" + steps + ")", p -> p.step(steps));
        }
    }

    private static void leastStep() {
        ChargePark park = used();
        c.same("step(1): 8 and three times 12", park.step(1), 44);
        c.same("step(1): time", park.time(), 3);
        outOfRange("step(0)", p -> p.step(0));
        outOfRange("step(-1)", p -> p.step(-1));
    }

    private static void greatestStep() {
        ChargePark park = park(0);
        park.plugIn(0, 5000, 32, 500);
        c.same("step(50)", park.step(50), 1600);
        c.same("step(50): time", park.time(), 50);
        outOfRange("step(51)", p -> p.step(51));
    }

    // ---- promises 15 to 19

    private static void pointOfQuestions() {
        leastPointOfQuestions();
        greatestPointOfQuestions();
        lastOfEightPointsOfQuestions();
        for (int point : FAR) {
            noSuchPointOfQuestions(BoundsTest::used, point);
        }
    }

    private static void noSuchPointOfQuestions(Checks.Start start, int point) {
        Class<IndexOutOfBoundsException> due = IndexOutOfBoundsException.class;
        c.leavesAsItWas("need(" + point + ")", start, due, p -> p.need(point));
        c.leavesAsItWas("left(" + point + ")", start, due, p -> p.left(point));
        c.leavesAsItWas("laxity(" + point + ")", start, due, p -> p.laxity(point));
        c.leavesAsItWas("reach(" + point + ")", start, due, p -> p.reach(point));
        c.leavesAsItWas("current(" + point + ")", start, due, p -> p.current(point));
    }

    private static void answers(ChargePark park, int point, int need, int left, int laxity, int reach, int current) {
        c.same("need(" + point + ")", park.need(point), need);
        c.same("left(" + point + ")", park.left(point), left);
        c.same("laxity(" + point + ")", park.laxity(point), laxity);
        c.same("reach(" + point + ")", park.reach(point), reach);
        c.same("current(" + point + ")", park.current(point), current);
    }

    private static void leastPointOfQuestions() {
        answers(used(), 0, 284, 38, 38 - 18, 16, 8);
        noSuchPointOfQuestions(BoundsTest::used, -1);
    }

    private static void greatestPointOfQuestions() {
        ChargePark park = used();
        park.plugIn(2, 50, 5, 11);
        answers(park, 2, 50, 11, 1, 5, 5);
        noSuchPointOfQuestions(BoundsTest::used, 3);
        noSuchPointOfQuestions(BoundsTest::used, 7);
    }

    private static void lastOfEightPointsOfQuestions() {
        ChargePark park = fullOfCars();
        for (int point = 3; point < 7; point++) {
            park.takeOut(point);
        }
        answers(park, 7, 107, 9, 7, 20, 12);
        noSuchPointOfQuestions(BoundsTest::fullOfCars, 8);
    }

    // ---- promises 20 and 23

    private static void phaseOfQuestions() {
        leastPhaseOfQuestions();
        greatestPhaseOfQuestions();
        for (int phase : FAR) {
            outOfRange("load(" + phase + ")", p -> p.load(phase));
            outOfRange("fairLevel(" + phase + ")", p -> p.fairLevel(phase));
        }
    }

    private static ChargePark withLittleRoom() {
        ChargePark park = parkWithACarAtEachPhase();
        park.fuse(0, 11);
        park.fuse(1, 12);
        park.fuse(2, 13);
        return park;
    }

    private static void leastPhaseOfQuestions() {
        c.same("load(0)", withLittleRoom().load(0), 11);
        c.same("fairLevel(0)", withLittleRoom().fairLevel(0), 11000);
        outOfRange("load(-1)", p -> p.load(-1));
        outOfRange("fairLevel(-1)", p -> p.fairLevel(-1));
    }

    private static void greatestPhaseOfQuestions() {
        c.same("load(2)", withLittleRoom().load(2), 13);
        c.same("fairLevel(2)", withLittleRoom().fairLevel(2), 13000);
        outOfRange("load(3): ALL is no phase", p -> p.load(ALL));
        outOfRange("load(4)", p -> p.load(4));
        outOfRange("fairLevel(3): ALL is no phase", p -> p.fairLevel(ALL));
        outOfRange("fairLevel(4)", p -> p.fairLevel(4));
    }
}
