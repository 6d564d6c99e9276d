/** Runs of 512 drawn calls on the park and on the plain model, right and wrong arguments mixed: every answer is the same. */
public final class ModelTest {
    private static final int RUNS = 400;
    private static final int CALLS = 512;
    private static final Checks checks = new Checks("ModelTest");

    private long seed;
    private ChargePark park;
    private PlainModel model;

    public static void main(String[] args) {
        for (int run = 0; run < RUNS; run++) {
            new ModelTest().compare(run);
        }
        checks.end();
    }

    /** The same numbers in every run of the test: a fixed row, no randomness. */
    private int drawn(int least, int most) {
        seed = seed * 6364136223846793005L + 1442695040888963407L;
        return least + (int) ((seed >>> 33) % (most - least + 1));
    }

    /** Mostly within the range, now and then just outside or far outside it. */
    private int drawnAbout(int least, int most) {
        int way = drawn(0, 60);
        if (way == 0) {
            return least - 1;
        }
        if (way == 1) {
            return most + 1;
        }
        if (way == 2) {
            return drawn(0, 1) == 0 ? Integer.MIN_VALUE : Integer.MAX_VALUE;
        }
        return way == 3 ? least : way == 4 ? most : drawn(least, most);
    }

    private void compare(int run) {
        seed = 7919L * run + 17;
        park = new ChargePark();
        model = new PlainModel();
        int firstPoints = drawn(0, 8);
        for (int k = 0; k < firstPoints; k++) {
            call(run, 0);
        }
        for (int k = firstPoints; k < CALLS; k++) {
            call(run, drawn(0, 39));
        }
    }

    private interface Call {
        int answer();
    }

    private static int answerOf(Call call) {
        try {
            return call.answer();
        } catch (IndexOutOfBoundsException e) {
            return e.getClass() == IndexOutOfBoundsException.class ? PlainModel.IOOBE : -2_000_000;
        } catch (IllegalArgumentException e) {
            return e.getClass() == IllegalArgumentException.class ? PlainModel.IAE : -2_000_000;
        } catch (IllegalStateException e) {
            return e.getClass() == IllegalStateException.class ? PlainModel.ISE : -2_000_000;
        }
    }

    private static void same(int run, String what, Call got, int due) {
        checks.same("run " + run + ": " + what, answerOf(got), due);
    }

    private int drawnPoint() {
        return drawnAbout(0, Math.max(park.points() - 1, 0));
    }

    private int drawnSteps() {
        return drawn(0, 3) == 0 ? drawnAbout(1, 500) : drawnAbout(1, 12);
    }

    private int drawnNeed() {
        return drawn(0, 3) == 0 ? drawnAbout(1, 5000) : drawnAbout(1, 120);
    }

    private void call(int run, int which) {
        if (which == 0) {
            int phase = drawnAbout(0, 3);
            int greatest = drawnAbout(6, 32);
            same(run, "point(" + phase + ", " + greatest + ")", () -> park.point(phase, greatest), model.point(phase, greatest));
        } else if (which <= 2) {
            int phase = drawnAbout(0, 2);
            int amperes = drawn(0, 1) == 0 ? drawnAbout(0, 100) : drawn(10, 60);
            same(run, "fuse(" + phase + ", " + amperes + ")", () -> park.fuse(phase, amperes), model.fuse(phase, amperes));
        } else if (which == 3) {
            int amperes = drawn(0, 2) == 0 ? drawnAbout(0, 100) : drawn(0, 20);
            same(run, "balance(" + amperes + ")", () -> park.balance(amperes), model.balance(amperes));
        } else if (which == 4) {
            int rule = drawnAbout(0, 1);
            same(run, "rule(" + rule + ")", () -> park.rule(rule), model.rule(rule));
        } else if (which <= 10) {
            changeCar(run, which);
        } else if (which <= 12) {
            int steps = drawn(0, 5) == 0 ? drawnAbout(1, 50) : drawn(1, 4);
            same(run, "step(" + steps + ")", () -> park.step(steps), model.step(steps));
        } else if (which <= 26) {
            askPark(run, which);
        } else {
            askPoint(run, which);
        }
    }

    private void changeCar(int run, int which) {
        int point = drawnPoint();
        int appetite = drawnAbout(1, 32);
        int steps = drawnSteps();
        if (which <= 7) {
            int need = drawnNeed();
            same(run, "plugIn(" + point + ", " + need + ", " + appetite + ", " + steps + ")",
                () -> park.plugIn(point, need, appetite, steps), model.plugIn(point, need, appetite, steps));
        } else if (which == 8) {
            same(run, "takeOut(" + point + ")", () -> park.takeOut(point), model.takeOut(point));
        } else if (which == 9) {
            same(run, "appetite(" + point + ", " + appetite + ")",
                () -> park.appetite(point, appetite), model.appetite(point, appetite));
        } else {
            same(run, "stay(" + point + ", " + steps + ")", () -> park.stay(point, steps), model.stay(point, steps));
        }
    }

    private void askPark(int run, int which) {
        int phase = drawnAbout(0, 2);
        switch (which) {
            case 13: same(run, "time()", () -> park.time(), model.time()); break;
            case 14: same(run, "points()", () -> park.points(), model.points()); break;
            case 15: same(run, "taken()", () -> park.taken(), model.taken()); break;
            case 16: same(run, "served()", () -> park.served(), model.served()); break;
            case 17: case 18: same(run, "imbalance()", () -> park.imbalance(), model.imbalance()); break;
            case 19: case 20: same(run, "held()", () -> park.held(), model.held()); break;
            case 21: case 22: same(run, "load(" + phase + ")", () -> park.load(phase), model.load(phase)); break;
            case 23: same(run, "canBeReady()", () -> park.canBeReady() ? 1 : 0, model.canBeReady() ? 1 : 0); break;
            default: same(run, "fairLevel(" + phase + ")", () -> park.fairLevel(phase), model.fairLevel(phase));
        }
    }

    private void askPoint(int run, int which) {
        int point = drawnPoint();
        switch (which) {
            case 27: case 28: same(run, "need(" + point + ")", () -> park.need(point), model.need(point)); break;
            case 29: case 30: same(run, "left(" + point + ")", () -> park.left(point), model.left(point)); break;
            case 31: case 32: same(run, "laxity(" + point + ")", () -> park.laxity(point), model.laxity(point)); break;
            case 33: case 34: same(run, "reach(" + point + ")", () -> park.reach(point), model.reach(point)); break;
            default: same(run, "current(" + point + ")", () -> park.current(point), model.current(point));
        }
    }
}
