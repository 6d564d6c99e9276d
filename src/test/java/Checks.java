/** Compares answers with what is due, prints those that differ, and ends with exit code 1 if there was one. */
final class Checks {
    /** Makes a park; two parks of one start are alike. */
    interface Start {
        ChargePark make();
    }

    interface Call {
        void on(ChargePark park);
    }

    private final String title;
    private int made;
    private int wrong;

    Checks(String title) {
        this.title = title;
    }

    void same(String what, long got, long due) {
        made++;
        if (got != due) {
            report(what + " answered " + got + ", due is " + due);
        }
    }

    void same(String what, String got, String due) {
        made++;
        if (!got.equals(due)) {
            report(what + " answered " + got + ", due is " + due);
        }
    }

    void yes(String what, boolean got) {
        same(what, got ? 1 : 0, 1);
    }

    void no(String what, boolean got) {
        same(what, got ? 1 : 0, 0);
    }

    /** The call throws an exception of exactly this class, and the park answers every question as before. */
    void refuses(String what, ChargePark park, Class<? extends RuntimeException> due, Runnable call) {
        made++;
        String before = allAnswers(park);
        try {
            call.run();
            report(what + " throws nothing, due is " + due.getSimpleName());
        } catch (RuntimeException e) {
            if (e.getClass() != due) {
                report(what + " throws " + e.getClass().getName() + ", due is " + due.getSimpleName());
            }
        }
        String after = allAnswers(park);
        if (!before.equals(after)) {
            report(what + " changes " + before + " to " + after);
        }
    }

    /**
     * As refuses, on a park of this start; and the park goes on as one of the same start that was never called so:
     * what no question shows (fuses, balance, rule, appetites, steps of leaving) is told by the calls that come then.
     */
    void leavesAsItWas(String what, Start start, Class<? extends RuntimeException> due, Call call) {
        ChargePark park = start.make();
        refuses(what, park, due, () -> call.on(park));
        same(what + ", and how it goes on,", goOn(park), goOn(start.make()));
    }

    void end() {
        System.out.println(title + ": " + made + " checks, " + wrong + " wrong");
        if (wrong > 0) {
            System.exit(1);
        }
    }

    private void report(String text) {
        wrong++;
        if (wrong <= 50) {
            System.out.println(title + ": " + text);
        }
    }

    /** Every question of the face that changes nothing, with its answer. */
    static String allAnswers(ChargePark park) {
        StringBuilder all = new StringBuilder();
        all.append("time ").append(park.time()).append(" points ").append(park.points());
        all.append(" taken ").append(park.taken()).append(" served ").append(park.served());
        for (int point = 0; point < park.points(); point++) {
            all.append(" | ").append(point).append(": need ").append(park.need(point));
            all.append(" left ").append(park.left(point)).append(" reach ").append(park.reach(point));
            all.append(" current ").append(park.current(point));
            if (park.need(point) != ChargePark.NONE) {
                all.append(" laxity ").append(park.laxity(point));
            }
        }
        for (int phase = 0; phase < 3; phase++) {
            all.append(" | phase ").append(phase).append(": load ").append(park.load(phase));
            all.append(" level ").append(park.fairLevel(phase));
        }
        all.append(" | imbalance ").append(park.imbalance()).append(" held ").append(park.held());
        all.append(" ready ").append(park.canBeReady());
        return all.toString();
    }

    /** Calls that change each part of the park, with their answers, and all questions between them. */
    private static String goOn(ChargePark park) {
        StringBuilder all = new StringBuilder(allAnswers(park));
        for (int phase = 0; phase < 3; phase++) {
            all.append(" | fuse before ").append(park.fuse(phase, 30 - 4 * phase));
        }
        all.append(" | balance before ").append(park.balance(9)).append(allAnswers(park));
        all.append(" | rule before ").append(park.rule(ChargePark.FAIR)).append(allAnswers(park));
        if (park.points() < 8) {
            all.append(" | point ").append(park.point(1, 9));
        }
        changeAllCars(park, all);
        all.append(" | units ").append(park.step(3)).append(allAnswers(park));
        all.append(" | rule before ").append(park.rule(ChargePark.LEAST_LAXITY)).append(allAnswers(park));
        all.append(" | units ").append(park.step(50)).append(allAnswers(park));
        for (int point = 0; point < park.points(); point++) {
            all.append(" | out ").append(park.takeOut(point));
        }
        return all.append(allAnswers(park)).toString();
    }

    private static void changeAllCars(ChargePark park, StringBuilder all) {
        for (int point = 0; point < park.points(); point++) {
            if (park.need(point) == ChargePark.NONE) {
                all.append(" | in ").append(park.plugIn(point, 60, 9, 5));
            } else {
                all.append(" | appetite before ").append(park.appetite(point, 7));
                all.append(" | stays ").append(park.stay(point, 3));
            }
        }
        all.append(allAnswers(park));
    }
}
