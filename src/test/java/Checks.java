/** Compares answers with what is due, prints those that differ, and ends with exit code 1 if there was one. */
final class Checks {
    private final String title;
    private int made;
    private int wrong;

    Checks(String title) {
        this.title = title;
    }

    void same(String what, long got, long due) {
        made++;
        if (got != due) {
            report(what + " answered " + got + ", due is " + due);
        }
    }

    void same(String what, String got, String due) {
        made++;
        if (!got.equals(due)) {
            report(what + " answered " + got + ", due is " + due);
        }
    }

    void yes(String what, boolean got) {
        same(what, got ? 1 : 0, 1);
    }

    void no(String what, boolean got) {
        same(what, got ? 1 : 0, 0);
    }

    /** The call throws an exception of exactly this class, and the park answers every question as before. */
    void refuses(String what, ChargePark park, Class<? extends RuntimeException> due, Runnable call) {
        made++;
        String before = allAnswers(park);
        try {
            call.run();
            report(what + " throws nothing, due is " + due.getSimpleName());
        } catch (RuntimeException e) {
            if (e.getClass() != due) {
                report(what + " throws " + e.getClass().getName() + ", due is " + due.getSimpleName());
            }
        }
        String after = allAnswers(park);
        if (!before.equals(after)) {
            report(what + " changes " + before + " to " + after);
        }
    }

    void end() {
        System.out.println(title + ": " + made + " checks, " + wrong + " wrong");
        if (wrong > 0) {
            System.exit(1);
        }
    }

    private void report(String text) {
        wrong++;
        if (wrong <= 50) {
            System.out.println(title + ": " + text);
        }
    }

    /** Every question of the face that changes nothing, with its answer. */
    static String allAnswers(ChargePark park) {
        StringBuilder all = new StringBuilder();
        all.append("time ").append(park.time()).append(" points ").append(park.points());
        all.append(" taken ").append(park.taken()).append(" served ").append(park.served());
        for (int point = 0; point < park.points(); point++) {
            all.append(" | ").append(point).append(": need ").append(park.need(point));
            all.append(" left ").append(park.left(point)).append(" reach ").append(park.reach(point));
            all.append(" current ").append(park.current(point));
            if (park.need(point) != ChargePark.NONE) {
                all.append(" laxity ").append(park.laxity(point));
            }
        }
        for (int phase = 0; phase < 3; phase++) {
            all.append(" | phase ").append(phase).append(": load ").append(park.load(phase));
            all.append(" level ").append(park.fairLevel(phase));
        }
        all.append(" | imbalance ").append(park.imbalance()).append(" held ").append(park.held());
        all.append(" ready ").append(park.canBeReady());
        return all.toString();
    }
}
