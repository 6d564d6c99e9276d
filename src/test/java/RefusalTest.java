/**
 * Refused calls, one test for each: which exception is thrown if several apply (the one that is listed first), which
 * if the park is not in the state for the call, and that the park goes on as if it had not been called.
 */
public final class RefusalTest {
    private static final int ALL = ChargePark.ALL;
    private static final int FAIR = ChargePark.FAIR;
    private static final Class<IndexOutOfBoundsException> NO_POINT = IndexOutOfBoundsException.class;
    private static final Class<IllegalArgumentException> OUT_OF_RANGE = IllegalArgumentException.class;
    private static final Class<IllegalStateException> NOT_NOW = IllegalStateException.class;
    private static final Checks c = new Checks("RefusalTest");

    public static void main(String[] args) {
        ninthPoint();
        ninthPointOutOfRange();
        bothArgumentsOutOfRange();
        noPointsAtAll();
        noPointBeforeRange();
        rangeBeforeCar();
        plugInWhereACarIs();
        plugInWhereACarIsDone();
        plugInWhereACarIsBehindItsStep();
        plugInWhereTheSameCarIs();
        noCarYet();
        carIsOutAgain();
        rangeBeforeNoCar();
        refusedCallsUseNothingUp();
        refusedCallsBetweenSteps();
        questionsThatThrowChangeNothing();
        c.end();
    }

    private static ChargePark empty() {
        return new ChargePark();
    }

    /** Points without cars. */
    private static ChargePark noCars() {
        ChargePark park = new ChargePark();
        park.point(0, 16);
        park.point(ALL, 20);
        return park;
    }

    /** Eight points, each with a car, at the time 3. */
    private static ChargePark full() {
        ChargePark park = new ChargePark();
        for (int point = 0; point < 8; point++) {
            park.point(point % 4, 12 + point);
            park.plugIn(point, 90 + point, 10 + point, 6 + point);
        }
        park.rule(FAIR);
        park.balance(6);
        park.fuse(1, 25);
        park.step(3);
        return park;
    }

    /** Point 0 has a car whose need is done, point 1 one behind its step of leaving, both at the time 7. */
    private static ChargePark doneAndBehind() {
        ChargePark park = noCars();
        park.plugIn(0, 30, 16, 20);
        park.plugIn(1, 900, 2, 4);
        park.step(7);
        return park;
    }

    /** A car was at point 0, and is out. */
    private static ChargePark out() {
        ChargePark park = noCars();
        park.plugIn(0, 40, 16, 20);
        park.step(2);
        park.takeOut(0);
        return park;
    }

    // ---- promise 2

    private static void ninthPoint() {
        c.leavesAsItWas("point: the ninth", RefusalTest::full, NOT_NOW, p -> p.point(0, 6));
        c.leavesAsItWas("point: the ninth, at ALL", RefusalTest::full, NOT_NOW, p -> p.point(ALL, 32));
    }

    private static void ninthPointOutOfRange() {
        c.leavesAsItWas("point: the ninth, phase below", RefusalTest::full, OUT_OF_RANGE, p -> p.point(-1, 6));
        c.leavesAsItWas("point: the ninth, phase above", RefusalTest::full, OUT_OF_RANGE, p -> p.point(4, 6));
        c.leavesAsItWas("point: the ninth, greatest below", RefusalTest::full, OUT_OF_RANGE, p -> p.point(0, 5));
        c.leavesAsItWas("point: the ninth, greatest above", RefusalTest::full, OUT_OF_RANGE, p -> p.point(0, 33));
    }

    // ---- promises 2 and 3

    private static void bothArgumentsOutOfRange() {
        c.leavesAsItWas("point(-1, 5)", RefusalTest::noCars, OUT_OF_RANGE, p -> p.point(-1, 5));
        c.leavesAsItWas("point(4, 33)", RefusalTest::noCars, OUT_OF_RANGE, p -> p.point(4, 33));
        c.leavesAsItWas("fuse(-1, -1)", RefusalTest::noCars, OUT_OF_RANGE, p -> p.fuse(-1, -1));
        c.leavesAsItWas("fuse(3, 101)", RefusalTest::noCars, OUT_OF_RANGE, p -> p.fuse(3, 101));
    }

    // ---- promises 6 to 9 and 15 to 19

    private static void noPointsAtAll() {
        c.leavesAsItWas("no points: plugIn", RefusalTest::empty, NO_POINT, p -> p.plugIn(0, 1, 1, 1));
        c.leavesAsItWas("no points: takeOut", RefusalTest::empty, NO_POINT, p -> p.takeOut(0));
        c.leavesAsItWas("no points: appetite", RefusalTest::empty, NO_POINT, p -> p.appetite(0, 1));
        c.leavesAsItWas("no points: stay", RefusalTest::empty, NO_POINT, p -> p.stay(0, 1));
        c.leavesAsItWas("no points: need", RefusalTest::empty, NO_POINT, p -> p.need(0));
        c.leavesAsItWas("no points: left", RefusalTest::empty, NO_POINT, p -> p.left(0));
        c.leavesAsItWas("no points: laxity", RefusalTest::empty, NO_POINT, p -> p.laxity(0));
        c.leavesAsItWas("no points: reach", RefusalTest::empty, NO_POINT, p -> p.reach(0));
        c.leavesAsItWas("no points: current", RefusalTest::empty, NO_POINT, p -> p.current(0));
    }

    private static void noPointBeforeRange() {
        int[] noPoints = {-1, 2, Integer.MIN_VALUE, Integer.MAX_VALUE};
        for (int point : noPoints) {
            c.leavesAsItWas("no point before need", RefusalTest::noCars, NO_POINT, p -> p.plugIn(point, 0, 1, 1));
            c.leavesAsItWas("no point before appetite", RefusalTest::noCars, NO_POINT, p -> p.plugIn(point, 1, 33, 1));
            c.leavesAsItWas("no point before steps", RefusalTest::noCars, NO_POINT, p -> p.plugIn(point, 1, 1, 501));
            c.leavesAsItWas("no point before appetite", RefusalTest::noCars, NO_POINT, p -> p.appetite(point, 0));
            c.leavesAsItWas("no point before steps", RefusalTest::noCars, NO_POINT, p -> p.stay(point, 0));
        }
    }

    // ---- promise 6

    private static void rangeBeforeCar() {
        c.leavesAsItWas("need before car", RefusalTest::full, OUT_OF_RANGE, p -> p.plugIn(3, 0, 9, 9));
        c.leavesAsItWas("need before car", RefusalTest::full, OUT_OF_RANGE, p -> p.plugIn(3, 5001, 9, 9));
        c.leavesAsItWas("appetite before car", RefusalTest::full, OUT_OF_RANGE, p -> p.plugIn(3, 9, 0, 9));
        c.leavesAsItWas("appetite before car", RefusalTest::full, OUT_OF_RANGE, p -> p.plugIn(3, 9, 33, 9));
        c.leavesAsItWas("steps before car", RefusalTest::full, OUT_OF_RANGE, p -> p.plugIn(3, 9, 9, 0));
        c.leavesAsItWas("steps before car", RefusalTest::full, OUT_OF_RANGE, p -> p.plugIn(3, 9, 9, 501));
    }

    private static void plugInWhereACarIs() {
        for (int number = 0; number < 8; number++) {
            int point = number;
            c.leavesAsItWas("plugIn: a car is at " + point, RefusalTest::full, NOT_NOW, p -> p.plugIn(point, 9, 9, 9));
        }
    }

    private static void plugInWhereACarIsDone() {
        c.same("plugIn: the car at 0 is done", doneAndBehind().need(0), 0);
        c.leavesAsItWas("plugIn: it is done", RefusalTest::doneAndBehind, NOT_NOW, p -> p.plugIn(0, 9, 9, 9));
    }

    private static void plugInWhereACarIsBehindItsStep() {
        c.same("plugIn: no steps are left for the car at 1", doneAndBehind().left(1), 0);
        c.leavesAsItWas("plugIn: none left", RefusalTest::doneAndBehind, NOT_NOW, p -> p.plugIn(1, 9, 9, 9));
    }

    private static void plugInWhereTheSameCarIs() {
        ChargePark park = noCars();
        park.plugIn(0, 70, 10, 9);
        c.refuses("plugIn: the same again", park, NOT_NOW, () -> park.plugIn(0, 70, 10, 9));
        c.same("plugIn: the other point is free", park.plugIn(1, 70, 10, 9), 6);
        c.refuses("plugIn: the other one again", park, NOT_NOW, () -> park.plugIn(1, 1, 1, 1));
    }

    // ---- promises 7, 8, 9 and 17

    private static void refusedWithoutCar(String what, Checks.Start start) {
        c.leavesAsItWas(what + ": takeOut", start, NOT_NOW, p -> p.takeOut(0));
        c.leavesAsItWas(what + ": appetite", start, NOT_NOW, p -> p.appetite(0, 9));
        c.leavesAsItWas(what + ": stay", start, NOT_NOW, p -> p.stay(0, 9));
        c.leavesAsItWas(what + ": laxity", start, NOT_NOW, p -> p.laxity(0));
    }

    private static void noCarYet() {
        refusedWithoutCar("no car yet", RefusalTest::noCars);
    }

    private static void carIsOutAgain() {
        refusedWithoutCar("the car is out", RefusalTest::out);
        c.same("the car is out: another one comes", out().plugIn(0, 33, 16, 5), 2);
    }

    private static void rangeBeforeNoCar() {
        c.leavesAsItWas("appetite: 0 before no car", RefusalTest::noCars, OUT_OF_RANGE, p -> p.appetite(0, 0));
        c.leavesAsItWas("appetite: 33 before no car", RefusalTest::noCars, OUT_OF_RANGE, p -> p.appetite(0, 33));
        c.leavesAsItWas("stay: 0 before no car", RefusalTest::noCars, OUT_OF_RANGE, p -> p.stay(0, 0));
        c.leavesAsItWas("stay: 501 before no car", RefusalTest::noCars, OUT_OF_RANGE, p -> p.stay(0, 501));
    }

    // ---- all of them

    private static void refusedCallsUseNothingUp() {
        ChargePark park = new ChargePark();
        for (int k = 0; k < 60; k++) {
            int phase = k % 2 == 0 ? -1 : 4;
            c.refuses("point, again and again", park, OUT_OF_RANGE, () -> park.point(phase, 9));
        }
        for (int number = 0; number < 8; number++) {
            c.same("point after many refused ones", park.point(1, 9), number);
        }
        for (int k = 0; k < 3; k++) {
            c.refuses("ninth point, again and again", park, NOT_NOW, () -> park.point(1, 9));
        }
        c.same("points after many refused ones", park.points(), 8);
    }

    private static void refusedCallsBetweenSteps() {
        ChargePark park = full();
        ChargePark twin = full();
        for (int k = 0; k < 12; k++) {
            c.refuses("step(51) between steps", park, OUT_OF_RANGE, () -> park.step(51));
            c.refuses("step(0) between steps", park, OUT_OF_RANGE, () -> park.step(0));
            c.refuses("fuse(0, 101) between steps", park, OUT_OF_RANGE, () -> park.fuse(0, 101));
            c.refuses("balance(101) between steps", park, OUT_OF_RANGE, () -> park.balance(101));
            c.refuses("rule(2) between steps", park, OUT_OF_RANGE, () -> park.rule(2));
            c.refuses("plugIn between steps", park, NOT_NOW, () -> park.plugIn(4, 9, 9, 9));
            c.same("units of a step between refused calls", park.step(1), twin.step(1));
            c.same("answers between refused calls", Checks.allAnswers(park), Checks.allAnswers(twin));
        }
    }

    private static void questionsThatThrowChangeNothing() {
        c.leavesAsItWas("load(3)", RefusalTest::full, OUT_OF_RANGE, p -> p.load(3));
        c.leavesAsItWas("fairLevel(3)", RefusalTest::full, OUT_OF_RANGE, p -> p.fairLevel(3));
        c.leavesAsItWas("current(8)", RefusalTest::full, NO_POINT, p -> p.current(8));
        c.leavesAsItWas("reach(8)", RefusalTest::full, NO_POINT, p -> p.reach(8));
        c.leavesAsItWas("laxity(8)", RefusalTest::full, NO_POINT, p -> p.laxity(8));
    }
}
