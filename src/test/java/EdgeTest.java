/**
 * The boundary cases of what a park holds, one test for each: nothing, the last that fits and the first that does not,
 * the step of leaving, the need's end, equal laxities, rounds of FAIR, the balance, the fair level, 512 calls.
 */
public final class EdgeTest {
    private static final int NONE = ChargePark.NONE;
    private static final int ALL = ChargePark.ALL;
    private static final int FAIR = ChargePark.FAIR;
    private static final Checks c = new Checks("EdgeTest");

    public static void main(String[] args) {
        emptyAndFull();
        takingInAStep();
        stepOfLeaving();
        laxityEdges();
        reachEdges();
        leastLaxityEdges();
        fairEdges();
        balanceEdges();
        askedCurrents();
        fairLevelEdges();
        canBeReadyEdges();
        longRuns();
        c.end();
    }

    /** A new park with one point of 32 amperes at each of these phases. */
    private static ChargePark park(int... phases) {
        ChargePark park = new ChargePark();
        for (int phase : phases) {
            park.point(phase, 32);
        }
        return park;
    }

    /** As park, with a car of much need and this appetite at each point. */
    private static ChargePark cars(int appetite, int... phases) {
        ChargePark park = park(phases);
        for (int point = 0; point < phases.length; point++) {
            park.plugIn(point, 5000, appetite, 400);
        }
        return park;
    }

    private static void fuses(ChargePark park, int first, int second, int third) {
        park.fuse(0, first);
        park.fuse(1, second);
        park.fuse(2, third);
    }

    private static void currents(String what, ChargePark park, int... due) {
        for (int point = 0; point < due.length; point++) {
            c.same(what + ": current(" + point + ")", park.current(point), due[point]);
        }
    }

    private static void loads(String what, ChargePark park, int first, int second, int third) {
        c.same(what + ": load(0)", park.load(0), first);
        c.same(what + ": load(1)", park.load(1), second);
        c.same(what + ": load(2)", park.load(2), third);
    }

    // ---- promises 1, 2, 10 to 16, 20 to 24: empty and full

    private static void emptyAndFull() {
        newParkAnswers();
        newParkHasItsFirstBounds();
        newParkLetsStepsGoBy();
        pointsWithoutCars();
        firstPointIsZero();
        eightPointsAreFull();
        eightCarsAreFull();
        pointIsFreeAgain();
        parksShareNothing();
    }

    private static void newParkAnswers() {
        c.same("new park", Checks.allAnswers(new ChargePark()), "time 0 points 0 taken 0 served 0"
            + " | phase 0: load 0 level -1 | phase 1: load 0 level -1 | phase 2: load 0 level -1"
            + " | imbalance 0 held 0 ready true");
    }

    private static void newParkHasItsFirstBounds() {
        ChargePark park = new ChargePark();
        for (int phase = 0; phase < 3; phase++) {
            c.same("new park: fuse(" + phase + ")", park.fuse(phase, 0), 32);
        }
        c.same("new park: balance", park.balance(0), 100);
        c.same("new park: rule", park.rule(FAIR), ChargePark.LEAST_LAXITY);
    }

    private static void newParkLetsStepsGoBy() {
        ChargePark park = new ChargePark();
        c.same("step without points", park.step(1), 0);
        c.same("time after it", park.time(), 1);
        c.same("step(50) without points", park.step(50), 0);
        c.same("time after them", park.time(), 51);
        park.rule(FAIR);
        c.same("step without points, FAIR", park.step(1), 0);
    }

    private static void pointsWithoutCars() {
        ChargePark park = park(0, 1, 2, ALL);
        fuses(park, 0, 0, 0);
        park.balance(0);
        for (int rule = 0; rule < 2; rule++) {
            park.rule(rule);
            for (int point = 0; point < 4; point++) {
                c.same("no car: need", park.need(point), NONE);
                c.same("no car: left", park.left(point), NONE);
                c.same("no car: reach", park.reach(point), 0);
                c.same("no car: current", park.current(point), 0);
            }
            loads("no cars", park, 0, 0, 0);
            c.same("no cars: imbalance", park.imbalance(), 0);
            c.same("no cars: held", park.held(), 0);
            c.same("no cars: fairLevel", park.fairLevel(1), NONE);
            c.yes("no cars: canBeReady", park.canBeReady());
            c.same("no cars: step", park.step(1), 0);
        }
    }

    private static void firstPointIsZero() {
        ChargePark park = new ChargePark();
        c.same("first point", park.point(1, 10), 0);
        c.same("points after it", park.points(), 1);
        c.same("second point", park.point(1, 10), 1);
        c.same("points after it", park.points(), 2);
    }

    private static void eightPointsAreFull() {
        ChargePark park = park(0, 0, 0, 0, 0, 0, 0);
        c.same("points: seven", park.points(), 7);
        c.same("eighth point", park.point(2, 32), 7);
        c.same("points: eight", park.points(), 8);
        c.refuses("ninth point", park, IllegalStateException.class, () -> park.point(2, 32));
        c.same("points: still eight", park.points(), 8);
    }

    private static void eightCarsAreFull() {
        ChargePark park = cars(32, 0, 0, 0, 0, 0, 0, 0, 0);
        fuses(park, 100, 0, 0);
        currents("three and a bit of eight cars", park, 32, 32, 32, 4, 0, 0, 0, 0);
        c.same("eight cars: held", park.held(), 0xF8);
        park.rule(FAIR);
        currents("all eight share", park, 13, 13, 13, 13, 12, 12, 12, 12);
        c.same("eight cars: held", park.held(), 0xFF);
    }

    private static void pointIsFreeAgain() {
        ChargePark park = cars(10, 0);
        for (int k = 1; k <= 5; k++) {
            c.same("need of the car before", park.takeOut(0), 5000);
            c.same("laxity of the next car", park.plugIn(0, 5000, 10 + k, 500), 500 - (5000 + 9 + k) / (10 + k));
            c.same("reach of the next car", park.reach(0), 10 + k);
        }
    }

    private static void parksShareNothing() {
        ChargePark one = cars(10, 0, 1);
        ChargePark other = cars(20, 2, ALL);
        one.rule(FAIR);
        one.fuse(0, 3);
        one.step(5);
        c.same("another park: time", other.time(), 0);
        c.same("another park: taken", other.taken(), 0);
        c.same("another park: rule", other.rule(0), 0);
        currents("another park", other, 20, 12);
        currents("one park", one, 3, 10);
    }

    // ---- promises 7, 10, 13, 14: taking

    private static void takingInAStep() {
        needOfOneAtAllTakesOne();
        needOfTwoAtAllTakesTwo();
        needOfThreeAtAllTakesThree();
        needOfFourAtAllTakesFour();
        needThatFitsOneStep();
        needOneAboveAStep();
        fiftyStepsAreFiftyTimesOneStep();
        mostUnitsInACall();
        nothingIsTakenAtAFuseOfZero();
        takenCountsCarsThatAreOut();
        servedWithNeedDone();
        notServedWithOneUnitLeft();
        servedBehindItsStep();
    }

    private static void oneStepAtAll(int need, int reach) {
        ChargePark park = park(ALL);
        park.plugIn(0, need, 32, 9);
        c.same("reach at ALL for " + need, park.reach(0), reach);
        c.same("step at ALL for " + need, park.step(1), need);
        c.same("need at ALL after " + need, park.need(0), 0);
        c.same("taken at ALL after " + need, park.taken(), need);
        c.same("step at ALL, need done", park.step(1), 0);
    }

    private static void needOfOneAtAllTakesOne() {
        oneStepAtAll(1, 1);
    }

    private static void needOfTwoAtAllTakesTwo() {
        oneStepAtAll(2, 1);
    }

    private static void needOfThreeAtAllTakesThree() {
        oneStepAtAll(3, 1);
    }

    private static void needOfFourAtAllTakesFour() {
        oneStepAtAll(4, 2);
    }

    private static void needThatFitsOneStep() {
        oneStepAtAll(96, 32);
        ChargePark park = park(0);
        park.plugIn(0, 32, 32, 9);
        c.same("step for 32", park.step(1), 32);
        c.same("need after 32", park.need(0), 0);
    }

    private static void needOneAboveAStep() {
        ChargePark park = park(ALL);
        park.plugIn(0, 97, 32, 9);
        c.same("step at ALL for 97", park.step(1), 96);
        c.same("need at ALL after it", park.need(0), 1);
        c.same("next step at ALL", park.step(1), 1);
        ChargePark single = park(0);
        single.plugIn(0, 33, 32, 9);
        c.same("step for 33", single.step(1), 32);
        c.same("next step", single.step(1), 1);
    }

    private static ChargePark narrow() {
        ChargePark park = park(0, 0, ALL, 1, 2);
        park.plugIn(0, 170, 20, 12);
        park.plugIn(1, 190, 18, 14);
        park.plugIn(2, 500, 15, 40);
        park.plugIn(3, 99, 32, 3);
        park.plugIn(4, 260, 11, 60);
        park.balance(10);
        return park;
    }

    private static void fiftyStepsAreFiftyTimesOneStep() {
        for (int rule = 0; rule < 2; rule++) {
            ChargePark atOnce = narrow();
            ChargePark single = narrow();
            atOnce.rule(rule);
            single.rule(rule);
            int units = 0;
            for (int k = 0; k < 50; k++) {
                units += single.step(1);
            }
            c.same("step(50)", atOnce.step(50), units);
            c.same("step(50): all answers", Checks.allAnswers(atOnce), Checks.allAnswers(single));
        }
    }

    private static void mostUnitsInACall() {
        ChargePark park = cars(32, ALL, ALL, ALL, ALL, ALL, ALL, ALL, ALL);
        fuses(park, 100, 100, 100);
        c.same("step(50): 100 amperes at ALL", park.step(50), 15000);
        c.same("taken by 100 amperes at ALL", park.taken(), 15000);
    }

    private static void nothingIsTakenAtAFuseOfZero() {
        ChargePark park = cars(32, 0, ALL);
        fuses(park, 0, 32, 32);
        c.same("step at a fuse of 0", park.step(50), 0);
        c.same("time after it", park.time(), 50);
        c.same("need after it", park.need(0), 5000);
        c.same("need at ALL after it", park.need(1), 5000);
    }

    private static void takenCountsCarsThatAreOut() {
        ChargePark park = cars(10, 0, 1);
        park.step(2);
        park.takeOut(0);
        c.same("taken, one car out", park.taken(), 40);
        park.takeOut(1);
        c.same("taken, both cars out", park.taken(), 40);
        park.plugIn(0, 3, 1, 2);
        c.same("step: of these steps alone", park.step(2), 2);
        c.same("taken: of all steps", park.taken(), 42);
    }

    private static void servedWithNeedDone() {
        ChargePark park = park(0);
        park.plugIn(0, 64, 32, 9);
        park.step(2);
        c.same("served: still in", park.served(), 0);
        c.same("takeOut: need done", park.takeOut(0), 0);
        c.same("served: out", park.served(), 1);
    }

    private static void notServedWithOneUnitLeft() {
        ChargePark park = park(0);
        park.plugIn(0, 65, 32, 9);
        park.step(2);
        c.same("takeOut: one unit left", park.takeOut(0), 1);
        c.same("served: one unit was left", park.served(), 0);
    }

    private static void servedBehindItsStep() {
        ChargePark park = park(0);
        park.plugIn(0, 64, 32, 2);
        park.step(30);
        c.same("takeOut: done, long behind its step", park.takeOut(0), 0);
        c.same("served: done, long behind its step", park.served(), 1);
    }

    // ---- promises 9 and 16: the step of leaving

    private static void stepOfLeaving() {
        oneStepLeft();
        noStepLeft();
        behindTheStep();
        staysWithOneStepLeft();
        staysAtItsStep();
        staysBehindItsStep();
        stayOfACarThatIsDone();
        plugInCountsFromNow();
    }

    /** A car that leaves by the step 3, at this time. */
    private static ChargePark leavesByThree(int time) {
        ChargePark park = park(0);
        park.plugIn(0, 900, 10, 3);
        if (time > 0) {
            park.step(time);
        }
        return park;
    }

    private static void oneStepLeft() {
        ChargePark park = leavesByThree(2);
        c.same("one step left: left", park.left(0), 1);
        c.same("one step left: reach", park.reach(0), 10);
        c.same("one step left: current", park.current(0), 10);
        c.same("one step left: step", park.step(1), 10);
    }

    private static void noStepLeft() {
        ChargePark park = leavesByThree(3);
        c.same("no step left: left", park.left(0), 0);
        c.same("no step left: reach", park.reach(0), 0);
        c.same("no step left: current", park.current(0), 0);
        c.same("no step left: load", park.load(0), 0);
        c.same("no step left: held", park.held(), 0);
        c.same("no step left: step", park.step(1), 0);
        c.same("no step left: need", park.need(0), 870);
    }

    private static void behindTheStep() {
        ChargePark park = leavesByThree(4);
        c.same("behind the step: left", park.left(0), 0);
        c.same("behind the step: reach", park.reach(0), 0);
        c.same("behind the step: need", park.need(0), 870);
        c.same("behind the step: laxity", park.laxity(0), -87);
        c.same("behind the step: it is taken out", park.takeOut(0), 870);
    }

    private static void staysWithOneStepLeft() {
        ChargePark park = leavesByThree(2);
        c.same("one step left: stay(1)", park.stay(0, 1), 2);
        c.same("one step left: left after stay", park.left(0), 2);
    }

    private static void staysAtItsStep() {
        ChargePark park = leavesByThree(3);
        c.same("at its step: stay(1)", park.stay(0, 1), 1);
        c.same("at its step: it is given again", park.step(2), 10);
    }

    private static void staysBehindItsStep() {
        ChargePark park = leavesByThree(4);
        c.same("one behind its step: stay(1)", park.stay(0, 1), 1);
        c.same("one behind its step: stay again", park.stay(0, 500), 501);
        c.same("fifty behind its step: stay(2)", leavesByThree(50).stay(0, 2), 2);
    }

    private static void stayOfACarThatIsDone() {
        ChargePark park = park(0);
        park.plugIn(0, 5, 10, 3);
        park.step(1);
        c.same("need done: stay", park.stay(0, 4), 6);
        c.same("need done: reach stays 0", park.reach(0), 0);
        c.same("need done: laxity", park.laxity(0), 6);
    }

    private static void plugInCountsFromNow() {
        ChargePark park = leavesByThree(50);
        park.takeOut(0);
        c.same("plugIn at the time 50", park.plugIn(0, 10, 10, 1), 0);
        c.same("plugIn at the time 50: left", park.left(0), 1);
        c.same("plugIn at the time 50: one step", park.step(5), 10);
    }

    // ---- promise 17

    private static void laxityEdges() {
        greatestLaxity();
        leastLaxityOfAll();
        leastLaxityBehindItsStep();
        laxityOfZeroAndBelow();
        laxityRoundsUp();
        laxityRoundsUpAtAll();
        laxityByTheLesserOfGreatestAndAppetite();
        laxityWithoutRegardToRoom();
        laxityOfNeedDone();
    }

    private static int laxityOf(int phase, int greatest, int need, int appetite, int steps) {
        ChargePark park = new ChargePark();
        park.point(phase, greatest);
        int answered = park.plugIn(0, need, appetite, steps);
        c.same("laxity as plugIn answered it", park.laxity(0), answered);
        return answered;
    }

    private static void greatestLaxity() {
        c.same("laxity: 1 unit in 500 steps", laxityOf(0, 6, 1, 1, 500), 499);
        c.same("laxity: 1 unit in 500 steps at ALL", laxityOf(ALL, 6, 1, 1, 500), 499);
    }

    private static void leastLaxityOfAll() {
        c.same("laxity: 5000 units by 1 in 1 step", laxityOf(0, 6, 5000, 1, 1), -4999);
        c.same("laxity: 5000 units by 3 in 1 step", laxityOf(ALL, 6, 5000, 1, 1), -1666);
    }

    private static void leastLaxityBehindItsStep() {
        ChargePark park = park(0);
        park.fuse(0, 0);
        park.plugIn(0, 5000, 1, 1);
        park.step(1);
        c.same("laxity: 5000 units by 1, no step left", park.laxity(0), -5000);
        park.step(50);
        c.same("laxity: behind the step it does not fall", park.laxity(0), -5000);
    }

    private static void laxityOfZeroAndBelow() {
        c.same("laxity: 100 by 10 in 11", laxityOf(0, 10, 100, 32, 11), 1);
        c.same("laxity: 100 by 10 in 10", laxityOf(0, 10, 100, 32, 10), 0);
        c.same("laxity: 100 by 10 in 9", laxityOf(0, 10, 100, 32, 9), -1);
    }

    private static void laxityRoundsUp() {
        c.same("laxity: 99 by 10 are 10 steps", laxityOf(0, 10, 99, 32, 20), 10);
        c.same("laxity: 100 by 10 are 10 steps", laxityOf(0, 10, 100, 32, 20), 10);
        c.same("laxity: 101 by 10 are 11 steps", laxityOf(0, 10, 101, 32, 20), 9);
        c.same("laxity: 91 by 10 are 10 steps", laxityOf(0, 10, 91, 32, 20), 10);
        c.same("laxity: 90 by 10 are 9 steps", laxityOf(0, 10, 90, 32, 20), 11);
    }

    private static void laxityRoundsUpAtAll() {
        c.same("laxity: 59 by 30 are 2 steps", laxityOf(ALL, 10, 59, 32, 20), 18);
        c.same("laxity: 60 by 30 are 2 steps", laxityOf(ALL, 10, 60, 32, 20), 18);
        c.same("laxity: 61 by 30 are 3 steps", laxityOf(ALL, 10, 61, 32, 20), 17);
        c.same("laxity: 30 by 30 are 1 step", laxityOf(ALL, 10, 30, 32, 20), 19);
        c.same("laxity: 31 by 30 are 2 steps", laxityOf(ALL, 10, 31, 32, 20), 18);
    }

    private static void laxityByTheLesserOfGreatestAndAppetite() {
        c.same("laxity: greatest above appetite", laxityOf(0, 11, 110, 10, 20), 9);
        c.same("laxity: both alike", laxityOf(0, 10, 110, 10, 20), 9);
        c.same("laxity: greatest below appetite", laxityOf(0, 10, 110, 11, 20), 9);
        c.same("laxity: both one more", laxityOf(0, 11, 110, 11, 20), 10);
    }

    private static void laxityWithoutRegardToRoom() {
        ChargePark park = cars(20, 0);
        fuses(park, 0, 0, 0);
        c.same("laxity: whatever there is room for", park.laxity(0), 400 - 250);
    }

    private static void laxityOfNeedDone() {
        ChargePark park = park(0);
        park.plugIn(0, 1, 1, 3);
        park.step(1);
        c.same("laxity: need done, 2 left", park.laxity(0), 2);
        park.step(2);
        c.same("laxity: need done, none left", park.laxity(0), 0);
        park.step(9);
        c.same("laxity: need done, behind its step", park.laxity(0), 0);
    }

    // ---- promise 18

    private static void reachEdges() {
        reachByGreatest();
        reachByAppetite();
        reachByNeed();
        reachByNeedAtAll();
        reachOfNeedDone();
        reachFollowsTheAppetite();
        reachFollowsTheNeed();
    }

    private static int reachOf(int phase, int greatest, int need, int appetite) {
        ChargePark park = new ChargePark();
        park.point(phase, greatest);
        park.plugIn(0, need, appetite, 9);
        return park.reach(0);
    }

    private static void reachByGreatest() {
        c.same("reach: greatest one below the others", reachOf(0, 9, 10, 10), 9);
        c.same("reach: greatest one below the others, at ALL", reachOf(ALL, 9, 30, 10), 9);
    }

    private static void reachByAppetite() {
        c.same("reach: appetite one below the others", reachOf(0, 10, 10, 9), 9);
        c.same("reach: appetite one below the others, at ALL", reachOf(ALL, 10, 30, 9), 9);
        c.same("reach: appetite below the least greatest", reachOf(0, 6, 900, 5), 5);
    }

    private static void reachByNeed() {
        c.same("reach: need one below the others", reachOf(0, 10, 9, 10), 9);
        c.same("reach: all three alike", reachOf(0, 10, 10, 10), 10);
        c.same("reach: need one above the others", reachOf(0, 10, 11, 10), 10);
        c.same("reach: need of 1", reachOf(0, 10, 1, 10), 1);
    }

    private static void reachByNeedAtAll() {
        c.same("reach: 27 at ALL", reachOf(ALL, 10, 27, 10), 9);
        c.same("reach: 28 at ALL", reachOf(ALL, 10, 28, 10), 10);
        c.same("reach: 30 at ALL", reachOf(ALL, 10, 30, 10), 10);
        c.same("reach: 31 at ALL", reachOf(ALL, 10, 31, 10), 10);
        c.same("reach: 1 at ALL", reachOf(ALL, 10, 1, 10), 1);
        c.same("reach: 3 at ALL", reachOf(ALL, 10, 3, 10), 1);
        c.same("reach: 4 at ALL", reachOf(ALL, 10, 4, 10), 2);
    }

    private static void reachOfNeedDone() {
        ChargePark park = park(0);
        park.plugIn(0, 20, 10, 9);
        park.step(2);
        c.same("reach: need done, steps left", park.reach(0), 0);
        c.same("current: need done, steps left", park.current(0), 0);
        c.same("held: need done, steps left", park.held(), 0);
    }

    private static void reachFollowsTheAppetite() {
        ChargePark park = cars(20, 0);
        park.appetite(0, 1);
        c.same("reach: an appetite of 1", park.reach(0), 1);
        c.same("current: an appetite of 1", park.current(0), 1);
        c.same("step: an appetite of 1", park.step(1), 1);
    }

    private static void reachFollowsTheNeed() {
        ChargePark park = park(0);
        park.plugIn(0, 45, 20, 9);
        c.same("reach: 45 left", park.reach(0), 20);
        park.step(1);
        c.same("reach: 25 left", park.reach(0), 20);
        park.step(1);
        c.same("reach: 5 left", park.reach(0), 5);
    }

    // ---- promise 19: LEAST_LAXITY

    private static void leastLaxityEdges() {
        sameLaxityByPoints();
        laxityOneLessGoesFirst();
        laxityBelowZeroGoesFirst();
        doneAndBehindTakeNoTurn();
        exactlyFullPhase();
        oneAmpereTooLittle();
        narrowestPhaseForAll();
        allTakesRoomInEachPhase();
        orderChangesWithTheSteps();
    }

    private static void sameLaxityByPoints() {
        ChargePark park = cars(20, 0, 0, 0);
        currents("same laxity", park, 20, 12, 0);
        fuses(park, 41, 32, 32);
        currents("same laxity, 41", park, 20, 20, 1);
    }

    private static void laxityOneLessGoesFirst() {
        ChargePark park = park(0, 0, 0);
        park.plugIn(0, 100, 20, 12);
        park.plugIn(1, 100, 20, 11);
        park.plugIn(2, 100, 20, 10);
        currents("laxities 7, 6, 5", park, 0, 12, 20);
        park.stay(2, 1);
        currents("laxities 7, 6, 6", park, 0, 20, 12);
        park.stay(1, 1);
        park.stay(2, 1);
        currents("laxities 7, 7, 7", park, 20, 12, 0);
    }

    private static void laxityBelowZeroGoesFirst() {
        ChargePark park = park(0, 0, 0);
        park.plugIn(0, 20, 20, 1);
        park.plugIn(1, 40, 20, 1);
        park.plugIn(2, 60, 20, 1);
        currents("laxities 0, -1, -2", park, 0, 12, 20);
    }

    private static void doneAndBehindTakeNoTurn() {
        ChargePark park = park(0, 0, 0);
        park.plugIn(0, 5, 20, 2);
        park.plugIn(1, 900, 20, 1);
        park.plugIn(2, 5000, 32, 300);
        park.step(1);
        c.same("need done", park.need(0), 0);
        c.same("no steps left", park.left(1), 0);
        currents("what is left goes to the last one", park, 0, 0, 32);
        c.same("no one is held", park.held(), 0);
    }

    private static void exactlyFullPhase() {
        ChargePark park = cars(16, 0, 0);
        currents("two of 16 at 32", park, 16, 16);
        c.same("two of 16 at 32: held", park.held(), 0);
        loads("two of 16 at 32", park, 32, 0, 0);
    }

    private static void oneAmpereTooLittle() {
        ChargePark park = cars(16, 0, 0);
        park.fuse(0, 31);
        currents("two of 16 at 31", park, 16, 15);
        c.same("two of 16 at 31: held", park.held(), 2);
        park.fuse(0, 16);
        currents("two of 16 at 16", park, 16, 0);
        park.fuse(0, 15);
        currents("two of 16 at 15", park, 15, 0);
        c.same("two of 16 at 15: held", park.held(), 3);
    }

    private static void narrowestPhaseForAll() {
        for (int narrow = 0; narrow < 3; narrow++) {
            ChargePark park = cars(20, ALL);
            park.fuse(narrow, 7);
            currents("at ALL, phase " + narrow + " has 7", park, 7);
            park.fuse(narrow, 0);
            currents("at ALL, phase " + narrow + " has 0", park, 0);
            park.fuse(narrow, 19);
            c.same("at ALL, phase " + narrow + " has 19: held", park.held(), 1);
            park.fuse(narrow, 20);
            c.same("at ALL, phase " + narrow + " has 20: held", park.held(), 0);
        }
    }

    private static void allTakesRoomInEachPhase() {
        ChargePark park = cars(32, ALL, 0, 1, 2);
        park.appetite(0, 31);
        currents("at ALL last, no room is left", park, 0, 32, 32, 32);
        park.appetite(1, 30);
        park.appetite(2, 29);
        park.appetite(3, 28);
        currents("at ALL, the least that is left", park, 2, 30, 29, 28);
        park.takeOut(0);
        park.plugIn(0, 5000, 25, 70);
        currents("at ALL first", park, 25, 7, 7, 7);
    }

    private static void orderChangesWithTheSteps() {
        ChargePark park = park(0, 0);
        park.plugIn(0, 90, 30, 10);
        park.plugIn(1, 60, 30, 9);
        park.fuse(0, 30);
        currents("laxity 7 and 7", park, 30, 0);
        park.step(1);
        currents("laxity 7 and 6", park, 0, 30);
        park.step(1);
        currents("laxity 6 and 6", park, 30, 0);
    }

    // ---- promise 19: FAIR

    private static void fairEdges() {
        fairWithNothingToShare();
        fairWithOneAmpere();
        fairRest();
        fairExactlyUpToTheReaches();
        fairPassesOverAtOnePhaseAlone();
        fairAllIsPassedOverByEachPhase();
        fairUpToTheGreatestReach();
        fairDoneAndBehind();
    }

    private static ChargePark fair(int appetite, int... phases) {
        ChargePark park = cars(appetite, phases);
        park.rule(FAIR);
        return park;
    }

    private static void fairWithNothingToShare() {
        ChargePark park = fair(32, 0, ALL, 1);
        fuses(park, 0, 5, 5);
        currents("FAIR, a fuse of 0", park, 0, 0, 5);
        c.same("FAIR, a fuse of 0: held", park.held(), 7);
    }

    private static void fairWithOneAmpere() {
        ChargePark park = fair(32, 0, 0, 0);
        park.fuse(0, 1);
        currents("FAIR, a fuse of 1", park, 1, 0, 0);
    }

    private static void fairRest() {
        ChargePark park = fair(32, 0, 0, 0);
        park.fuse(0, 30);
        currents("FAIR, 30 for three", park, 10, 10, 10);
        park.fuse(0, 31);
        currents("FAIR, 31 for three", park, 11, 10, 10);
        park.fuse(0, 32);
        currents("FAIR, 32 for three", park, 11, 11, 10);
        park.fuse(0, 33);
        currents("FAIR, 33 for three", park, 11, 11, 11);
    }

    private static void fairExactlyUpToTheReaches() {
        ChargePark park = fair(10, 0, 0, 0);
        park.appetite(1, 3);
        park.fuse(0, 23);
        currents("FAIR, just enough", park, 10, 3, 10);
        c.same("FAIR, just enough: held", park.held(), 0);
        park.fuse(0, 22);
        currents("FAIR, one too few", park, 10, 3, 9);
        c.same("FAIR, one too few: held", park.held(), 4);
        park.fuse(0, 100);
        currents("FAIR, far more than enough", park, 10, 3, 10);
    }

    private static void fairPassesOverAtOnePhaseAlone() {
        ChargePark park = fair(20, 0, 1, ALL);
        fuses(park, 10, 30, 30);
        currents("FAIR, 5 and 5 at the narrow phase", park, 5, 20, 5);
        fuses(park, 11, 30, 30);
        currents("FAIR, the odd one goes to the lower point", park, 6, 20, 5);
    }

    private static void fairAllIsPassedOverByEachPhase() {
        for (int narrow = 0; narrow < 3; narrow++) {
            ChargePark park = fair(20, 0, 1, 2, ALL);
            fuses(park, 40, 40, 40);
            park.fuse(narrow, 9);
            for (int phase = 0; phase < 3; phase++) {
                c.same("FAIR, phase " + narrow + " has 9: current(" + phase + ")", park.current(phase),
                    phase == narrow ? 5 : 20);
            }
            c.same("FAIR, phase " + narrow + " has 9: current at ALL", park.current(3), 4);
        }
    }

    private static void fairUpToTheGreatestReach() {
        ChargePark park = fair(32, 0, 0, 0);
        park.fuse(0, 96);
        currents("FAIR, 32 each", park, 32, 32, 32);
        park.fuse(0, 95);
        currents("FAIR, one less", park, 32, 32, 31);
    }

    private static void fairDoneAndBehind() {
        ChargePark park = park(0, 0, 0);
        park.rule(FAIR);
        park.plugIn(0, 5, 20, 9);
        park.plugIn(1, 900, 5, 1);
        park.plugIn(2, 5000, 32, 300);
        currents("FAIR, all three", park, 5, 5, 22);
        park.step(1);
        currents("FAIR, need done and no steps left", park, 0, 0, 32);
    }

    // ---- promise 19: the balance

    private static void balanceEdges() {
        differenceAsTheBalance();
        differenceOneAboveTheBalance();
        sameGivenHighestPointFirst();
        mostGivenFirst();
        twoPhasesAboveTheThird();
        allIsNeverTakenFrom();
        nothingButAll();
        balanceOfZero();
        mostThatTheBalanceCanTake();
        balanceUnderFair();
        balanceAfterTheShares();
    }

    private static void differenceAsTheBalance() {
        ChargePark park = cars(12, 0, 1);
        park.balance(12);
        currents("12 to 0, balance 12", park, 12, 12);
        c.same("12 to 0, balance 12: imbalance", park.imbalance(), 12);
        c.same("12 to 0, balance 12: held", park.held(), 0);
    }

    private static void differenceOneAboveTheBalance() {
        ChargePark park = cars(12, 0);
        park.balance(11);
        currents("12 to 0, balance 11", park, 11);
        c.same("12 to 0, balance 11: imbalance", park.imbalance(), 11);
        c.same("12 to 0, balance 11: held", park.held(), 1);
        loads("12 to 0, balance 11", park, 11, 0, 0);
    }

    private static void sameGivenHighestPointFirst() {
        ChargePark park = cars(10, 0, 0, 0);
        park.balance(29);
        currents("three of 10, one to take", park, 10, 10, 9);
        park.balance(28);
        currents("three of 10, two to take", park, 10, 9, 9);
        park.balance(27);
        currents("three of 10, three to take", park, 9, 9, 9);
        park.balance(26);
        currents("three of 10, four to take", park, 9, 9, 8);
    }

    private static void mostGivenFirst() {
        ChargePark park = cars(10, 0, 0, 0);
        park.appetite(0, 12);
        park.appetite(1, 5);
        park.appetite(2, 11);
        park.balance(27);
        currents("12, 5, 11, one to take", park, 11, 5, 11);
        park.balance(26);
        currents("12, 5, 11, two to take", park, 11, 5, 10);
        park.balance(15);
        currents("12, 5, 11, down to 15", park, 5, 5, 5);
        park.balance(14);
        currents("12, 5, 11, down to 14", park, 5, 5, 4);
        park.balance(1);
        currents("12, 5, 11, down to 1", park, 1, 0, 0);
    }

    private static void twoPhasesAboveTheThird() {
        ChargePark park = cars(10, 0, 1, 2);
        park.appetite(2, 4);
        park.balance(5);
        currents("10, 10, 4, balance 5", park, 9, 9, 4);
        park.balance(6);
        currents("10, 10, 4, balance 6", park, 10, 10, 4);
        park.appetite(1, 11);
        currents("10, 11, 4, balance 6", park, 10, 10, 4);
        loads("10, 11, 4, balance 6", park, 10, 10, 4);
        park.takeOut(2);
        currents("10, 11, nothing, balance 6", park, 6, 6, 0);
    }

    private static void allIsNeverTakenFrom() {
        ChargePark park = cars(12, ALL, 0);
        park.balance(0);
        currents("at ALL 12, balance 0", park, 12, 0);
        park.balance(1);
        currents("at ALL 12, balance 1", park, 12, 1);
        loads("at ALL 12, balance 1", park, 13, 12, 12);
        c.same("at ALL 12, balance 1: held", park.held(), 2);
    }

    private static void nothingButAll() {
        ChargePark park = cars(12, ALL, ALL);
        park.balance(0);
        currents("all at ALL, balance 0", park, 12, 12);
        c.same("all at ALL, balance 0: imbalance", park.imbalance(), 0);
    }

    private static void balanceOfZero() {
        ChargePark park = cars(10, 0, 1, 2);
        park.balance(0);
        currents("three alike, balance 0", park, 10, 10, 10);
        park.appetite(1, 1);
        currents("10, 1, 10, balance 0", park, 1, 1, 1);
        park.takeOut(1);
        currents("10, none, 10, balance 0", park, 0, 0, 0);
        c.same("10, none, 10, balance 0: held", park.held(), 5);
        c.same("10, none, 10, balance 0: step", park.step(1), 0);
    }

    private static void mostThatTheBalanceCanTake() {
        ChargePark park = cars(25, 0, 0, 0, 0, 1, 1, 1, 1);
        fuses(park, 100, 100, 100);
        currents("100, 100, nothing, balance 100", park, 25, 25, 25, 25, 25, 25, 25, 25);
        park.balance(50);
        currents("100, 100, nothing, balance 50", park, 13, 13, 12, 12, 13, 13, 12, 12);
        park.balance(1);
        currents("100, 100, nothing, balance 1", park, 1, 0, 0, 0, 1, 0, 0, 0);
        park.balance(0);
        currents("100, 100, nothing, balance 0", park, 0, 0, 0, 0, 0, 0, 0, 0);
        c.same("100, 100, nothing, balance 0: held", park.held(), 255);
    }

    private static void balanceUnderFair() {
        ChargePark park = fair(32, 0, 0, 1, 1);
        park.fuse(1, 9);
        currents("FAIR, no balance", park, 16, 16, 5, 4);
        park.balance(9);
        currents("FAIR, balance 9 above nothing at 2", park, 5, 4, 5, 4);
        park.balance(8);
        currents("FAIR, balance 8 above nothing at 2", park, 4, 4, 4, 4);
    }

    private static void balanceAfterTheShares() {
        ChargePark park = cars(20, 0, 0, 1);
        park.appetite(2, 1);
        park.balance(20);
        currents("what is taken goes to no one else", park, 10, 10, 1);
        c.same("what is taken goes to no one else: step", park.step(1), 21);
    }

    // ---- promises 19 to 22: asked currents

    private static void askedCurrents() {
        askingChangesNothing();
        loadOfAFullPhase();
        imbalanceOfEachPair();
        greatestImbalance();
        heldFirstAndLastPoint();
        heldAllPoints();
    }

    private static void askingChangesNothing() {
        ChargePark park = narrow();
        String once = Checks.allAnswers(park);
        c.same("asked twice", Checks.allAnswers(park), once);
        ChargePark unasked = narrow();
        c.same("step after questions", park.step(3), unasked.step(3));
        c.same("answers after it", Checks.allAnswers(park), Checks.allAnswers(unasked));
    }

    private static void loadOfAFullPhase() {
        ChargePark park = cars(32, ALL, 0, 0, 1, 2, ALL);
        fuses(park, 100, 64, 32);
        park.appetite(0, 1);
        park.rule(FAIR);
        loads("full phases", park, 80, 48, 32);
        currents("full phases", park, 1, 32, 32, 32, 16, 15);
        park.takeOut(4);
        park.takeOut(0);
        loads("full phases, 32 at ALL", park, 96, 64, 32);
    }

    private static void imbalanceOfEachPair() {
        for (int low = 0; low < 3; low++) {
            ChargePark park = cars(20, 0, 1, 2);
            park.appetite(low, 13);
            c.same("imbalance: phase " + low + " has 7 less", park.imbalance(), 7);
            park.appetite(low, 27);
            c.same("imbalance: phase " + low + " has 7 more", park.imbalance(), 7);
            park.appetite((low + 1) % 3, 18);
            c.same("imbalance: another one has 2 less", park.imbalance(), 9);
            park.appetite((low + 1) % 3, 27);
            park.appetite((low + 2) % 3, 27);
            c.same("imbalance: all alike", park.imbalance(), 0);
        }
    }

    private static void greatestImbalance() {
        ChargePark park = cars(25, 2, 2, 2, 2);
        park.fuse(2, 100);
        c.same("imbalance: 100", park.imbalance(), 100);
        park.fuse(2, 99);
        c.same("imbalance: 99", park.imbalance(), 99);
    }

    private static void heldFirstAndLastPoint() {
        ChargePark park = cars(3, 0, 1, 1, 1, 1, 1, 1, 2);
        park.fuse(0, 2);
        c.same("held: the first point", park.held(), 1);
        park.fuse(0, 3);
        c.same("held: none", park.held(), 0);
        park.fuse(2, 2);
        c.same("held: the eighth point", park.held(), 128);
    }

    private static void heldAllPoints() {
        ChargePark park = cars(3, 0, 1, 2, ALL, 0, 1, 2, ALL);
        fuses(park, 0, 0, 0);
        c.same("held: all eight", park.held(), 255);
        park.takeOut(3);
        c.same("held: all but one that is out", park.held(), 247);
    }

    // ---- promise 23

    private static void fairLevelEdges() {
        levelOfNobody();
        levelWithNothingToShare();
        levelWithJustEnough();
        levelInThousandths();
        levelAtAReach();
        levelBetweenReaches();
        levelOfTheGreatestReach();
        levelOfEightCars();
        levelLessWhatAllIsGiven();
        levelOfThoseToBeGiven();
        levelWhateverTheBalanceIs();
        levelOfEachPhase();
    }

    private static void levelIs(String what, int amperes, int due, int... appetites) {
        ChargePark park = new ChargePark();
        for (int point = 0; point < appetites.length; point++) {
            park.point(1, 32);
            park.plugIn(point, 5000, appetites[point], 400);
        }
        park.fuse(1, amperes);
        c.same("fairLevel: " + what, park.fairLevel(1), due);
        park.rule(FAIR);
        c.same("fairLevel by FAIR: " + what, park.fairLevel(1), due);
    }

    private static void levelOfNobody() {
        levelIs("nobody, 100", 100, NONE);
        levelIs("nobody, 0", 0, NONE);
    }

    private static void levelWithNothingToShare() {
        levelIs("one car, 0", 0, 0, 20);
        levelIs("three cars, 0", 0, 0, 1, 20, 32);
    }

    private static void levelWithJustEnough() {
        levelIs("one car, its reach", 20, NONE, 20);
        levelIs("one car, one less", 19, 19000, 20);
        levelIs("one car, one more", 21, NONE, 20);
        levelIs("a reach of 1, 1", 1, NONE, 1);
        levelIs("a reach of 1, 0", 0, 0, 1);
        levelIs("three cars, their reaches", 35, NONE, 20, 10, 5);
        levelIs("three cars, one less", 34, 19000, 20, 10, 5);
    }

    private static void levelInThousandths() {
        levelIs("1 for two", 1, 500, 20, 20);
        levelIs("1 for three", 1, 333, 20, 20, 20);
        levelIs("2 for three", 2, 666, 20, 20, 20);
        levelIs("20 for three", 20, 6666, 20, 20, 20);
        levelIs("1 for six", 1, 166, 20, 20, 20, 20, 20, 20);
        levelIs("1 for seven", 1, 142, 20, 20, 20, 20, 20, 20, 20);
        levelIs("6 for seven", 6, 857, 20, 20, 20, 20, 20, 20, 20);
    }

    private static void levelAtAReach() {
        levelIs("5 and two more at 5", 15, 5000, 5, 20, 20);
        levelIs("one below", 14, 4666, 5, 20, 20);
        levelIs("one above", 16, 5500, 5, 20, 20);
    }

    private static void levelBetweenReaches() {
        levelIs("8 to the first two, 29 for two", 45, 14500, 8, 8, 20, 20);
        levelIs("8, and 37 for two", 45, 18500, 8, 20, 32);
        levelIs("8, and 20 for two", 48, 20000, 8, 20, 32);
        levelIs("8, 20, and 24 for the last", 52, 24000, 8, 20, 32);
    }

    private static void levelOfTheGreatestReach() {
        levelIs("32 for 32", 32, NONE, 32);
        levelIs("31 for 32", 31, 31000, 32);
        levelIs("95 for three of 32", 95, 31666, 32, 32, 32);
        levelIs("96 for three of 32", 96, NONE, 32, 32, 32);
        levelIs("100 for four of 32", 100, 25000, 32, 32, 32, 32);
    }

    private static void levelOfEightCars() {
        levelIs("100 for eight", 100, 12500, 32, 32, 32, 32, 32, 32, 32, 32);
        levelIs("99 for eight", 99, 12375, 32, 32, 32, 32, 32, 32, 32, 32);
        levelIs("8 for eight of 1", 8, NONE, 1, 1, 1, 1, 1, 1, 1, 1);
        levelIs("7 for eight of 1", 7, 875, 1, 1, 1, 1, 1, 1, 1, 1);
    }

    private static void levelLessWhatAllIsGiven() {
        ChargePark park = cars(20, 0, ALL, ALL);
        park.takeOut(2);
        park.appetite(1, 12);
        c.same("fairLevel: 12 at ALL of 32, 20 for one", park.fairLevel(0), NONE);
        park.fuse(0, 31);
        c.same("fairLevel: ALL is last and given 11", park.fairLevel(0), NONE);
        park.rule(FAIR);
        c.same("fairLevel: FAIR, ALL is given 12", park.fairLevel(0), 19000);
        park.plugIn(2, 5000, 20, 400);
        c.same("fairLevel: FAIR, two at ALL are given 20", park.fairLevel(0), 11000);
        park.takeOut(0);
        c.same("fairLevel: FAIR, all goes to ALL", park.fairLevel(0), NONE);
        allUsesUpTheFuse();
    }

    private static void allUsesUpTheFuse() {
        ChargePark park = park(ALL, 0);
        park.plugIn(0, 5000, 20, 1);
        park.plugIn(1, 5000, 20, 400);
        park.fuse(0, 20);
        c.same("fairLevel: ALL uses up the fuse", park.fairLevel(0), 0);
        park.fuse(0, 21);
        c.same("fairLevel: ALL leaves 1", park.fairLevel(0), 1000);
    }

    private static void levelOfThoseToBeGiven() {
        ChargePark park = park(0, 0, 0, 0);
        park.plugIn(0, 1, 20, 9);
        park.plugIn(1, 900, 2, 1);
        park.plugIn(2, 900, 20, 9);
        park.fuse(0, 12);
        c.same("fairLevel: 1, 2 and the rest", park.fairLevel(0), 9000);
        park.fuse(0, 32);
        park.step(1);
        park.fuse(0, 12);
        c.same("fairLevel: need done, no steps left, no car", park.fairLevel(0), 12000);
        park.step(9);
        c.same("fairLevel: nobody is to be given something", park.fairLevel(0), NONE);
    }

    private static void levelWhateverTheBalanceIs() {
        ChargePark park = cars(20, 0, 0);
        park.balance(0);
        currents("nothing is given", park, 0, 0);
        c.same("fairLevel: whatever the balance is", park.fairLevel(0), 16000);
    }

    private static void levelOfEachPhase() {
        ChargePark park = cars(20, 0, 1, 2, 2);
        fuses(park, 1, 2, 3);
        c.same("fairLevel(0)", park.fairLevel(0), 1000);
        c.same("fairLevel(1)", park.fairLevel(1), 2000);
        c.same("fairLevel(2)", park.fairLevel(2), 1500);
    }

    // ---- promise 24

    private static void canBeReadyEdges() {
        readyAtLaxityZero();
        notReadyBelowZero();
        readyWhateverTheFusesAre();
        readyWithNeedDone();
        notReadyBehindItsStep();
        oneOfEightIsNotReady();
    }

    private static void readyAtLaxityZero() {
        ChargePark park = park(0);
        c.same("laxity 0", park.plugIn(0, 100, 10, 10), 0);
        c.yes("laxity 0: canBeReady", park.canBeReady());
    }

    private static void notReadyBelowZero() {
        ChargePark park = park(0);
        c.same("laxity -1", park.plugIn(0, 101, 10, 10), -1);
        c.no("laxity -1: canBeReady", park.canBeReady());
        park.appetite(0, 11);
        c.yes("a greater appetite: canBeReady", park.canBeReady());
    }

    private static void readyWhateverTheFusesAre() {
        ChargePark park = cars(32, 0, 0, ALL);
        fuses(park, 0, 0, 0);
        park.balance(0);
        c.yes("fuses of 0: canBeReady", park.canBeReady());
    }

    private static void readyWithNeedDone() {
        ChargePark park = park(0);
        park.plugIn(0, 10, 10, 1);
        park.step(1);
        c.yes("need done at its step: canBeReady", park.canBeReady());
        park.step(9);
        c.yes("need done behind its step: canBeReady", park.canBeReady());
    }

    private static void notReadyBehindItsStep() {
        ChargePark park = park(0);
        park.plugIn(0, 11, 10, 1);
        park.step(1);
        c.same("one unit is left", park.need(0), 1);
        c.no("one unit at its step: canBeReady", park.canBeReady());
        park.stay(0, 1);
        c.yes("one unit, one step more: canBeReady", park.canBeReady());
        park.takeOut(0);
        c.yes("it is out: canBeReady", park.canBeReady());
    }

    private static void oneOfEightIsNotReady() {
        for (int late = 0; late < 8; late++) {
            ChargePark park = cars(32, 0, 1, 2, ALL, 0, 1, 2, ALL);
            c.yes("eight cars: canBeReady", park.canBeReady());
            park.appetite(late, 1);
            c.no("car " + late + " is late: canBeReady", park.canBeReady());
        }
    }

    // ---- what an object is used for at most: 512 calls

    private static void longRuns() {
        longestTime();
        longestStay();
        mostCars();
        mostRefusedCalls();
    }

    private static void longestTime() {
        ChargePark park = new ChargePark();
        for (int k = 0; k < 510; k++) {
            park.step(50);
        }
        c.same("time after 510 times 50", park.time(), 25500);
        park.point(0, 32);
    }

    private static void longestStay() {
        ChargePark park = park(0);
        park.fuse(0, 0);
        park.plugIn(0, 5000, 1, 500);
        for (int k = 1; k <= 500; k++) {
            c.same("stay again and again", park.stay(0, 500), 500 * (k + 1));
        }
        c.same("laxity after it", park.laxity(0), 250_500 - 5000);
        c.same("step after it", park.step(50), 0);
        c.same("left after it", park.left(0), 250_450);
    }

    private static void mostCars() {
        ChargePark park = park(0);
        for (int k = 1; k <= 127; k++) {
            park.plugIn(0, 32, 32, 1);
            park.step(1);
            c.same("car " + k + " is done", park.takeOut(0), 0);
            c.same("served after car " + k, park.served(), k);
        }
        c.same("taken by 127 cars", park.taken(), 127 * 32);
        c.same("time after 127 cars", park.time(), 127);
    }

    private static void mostRefusedCalls() {
        ChargePark park = cars(16, 0);
        int thrown = 0;
        for (int k = 0; k < 505; k++) {
            try {
                park.plugIn(0, 9, 9, 9);
            } catch (IllegalStateException e) {
                thrown++;
            }
        }
        c.same("refused calls", thrown, 505);
        c.same("need after them", park.need(0), 5000);
        c.same("step after them", park.step(1), 16);
        c.same("left after them", park.left(0), 399);
    }
}
