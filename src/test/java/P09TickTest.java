/** Promise 9: tick. */
public final class P09TickTest {
    private static final Due DUE = new Due("Promise 9, tick");

    public static void main(String[] args) {
        ticks();
        theClock();
        itIsntSo();
        theWaitIsOver();
        waitOfNothing();
        withoutReports();
        health();
        healthOfManyReports();
        nextStage();
        oneStageATick();
        behindTheLastOne();
        oneByOne();
        eachRelease();
        onlyRollingOnes();
        DUE.end();
    }

    private static void ticks() {
        DUE.by("The CLOCK goes on (0 .. 2000 ticks");
        RollStages x = new RollStages();
        DUE.is(0, x.tick(0));
        for (int wrong : new int[] {-1, -2, Setting.LOWEST, 2001, 2002, Setting.HIGHEST, 1 << 16}) {
            DUE.is(-1, x.tick(wrong));
        }
        DUE.is(0, x.tick(0));
        DUE.is(2000, x.tick(2000));
        DUE.is(2000, x.tick(0));
        DUE.is(2001, x.tick(1));
        DUE.is(-1, x.tick(2001));
        DUE.is(4000, x.tick(1999));
        DUE.is(-1, x.tick(-1));
        DUE.is(4000, x.tick(0));
    }

    private static void theClock() {
        DUE.by("one by one): the CLOCK");
        RollStages x = Town.mixed();
        DUE.is(3, x.tick(0));
        int clock = 3;
        for (int ticks : new int[] {1, 0, 2, 1999, 2000, 0, 7}) {
            clock += ticks;
            DUE.is(clock, x.tick(ticks));
        }
    }

    private static void itIsntSo() {
        DUE.by("NONE if it isn't so");
        Refused mixed = new Refused(DUE, Town::mixed);
        mixed.none(x -> x.tick(-1));
        mixed.none(x -> x.tick(Setting.LOWEST));
        mixed.none(x -> x.tick(2001));
        mixed.none(x -> x.tick(Setting.HIGHEST));
    }

    private static void theWaitIsOver() {
        DUE.by("whose STAGE's WAIT is over (as many ticks or more since it came to the STAGE, or last went on)");
        for (int wait : new int[] {1, 2, 3, 500, 999, 1000}) {
            RollStages x = Setting.withWaits(wait, 1);
            x.report(0, 1, 0);
            x.tick(wait - 1);
            DUE.is(0, x.about(0, Setting.STAGE));
            x.tick(1);
            DUE.is(1, x.about(0, Setting.STAGE));
        }
        // The second wait begins when the first one ends, though the same call goes on.
        RollStages y = Setting.withWaits(5, 7);
        y.report(0, 1, 0);
        y.tick(11);
        DUE.is(Setting.ROLLING, y.about(0, Setting.STATE));
        y.tick(1);
        DUE.is(1, y.about(0, Setting.WHY));
    }

    private static void waitOfNothing() {
        DUE.by("At each tick of the CLOCK");
        RollStages x = Setting.withWaits(0);
        x.report(0, 1, 0);
        x.tick(0);
        DUE.is(Setting.ROLLING, x.about(0, Setting.STATE));
        x.tick(1);
        DUE.is(Setting.FULL, x.about(0, Setting.STATE));
    }

    private static void withoutReports() {
        DUE.by("without reports since then it is HELD for want of them (why 1)");
        RollStages none = Setting.withWaits(2);
        none.tick(1);
        DUE.text("1 0 0 10 0", Setting.about(none, 0));
        none.tick(1);
        DUE.text("2 0 1 10 0", Setting.about(none, 0));
        for (int good = 0; good <= 1; good++) {
            RollStages one = Setting.withWaits(2);
            one.tick(1);
            one.report(0, good, 1 - good);
            one.tick(1);
            DUE.is(Setting.FULL, one.about(0, Setting.STATE));
        }
        // Those of the stage before don't count.
        RollStages before = Setting.withWaits(1, 1);
        before.report(0, 9, 0);
        before.tick(2);
        DUE.text("2 1 1 10 0", Setting.about(before, 0));
        // Even where no report may be bad.
        RollStages strict = Setting.withWaits(1);
        strict.health(0, 0, 1);
        strict.tick(1);
        DUE.is(1, strict.about(0, Setting.WHY));
    }

    private static int whyAfter(int p, int q, int good, int bad) {
        RollStages x = Setting.withWaits(1, 1);
        x.health(0, p, q);
        x.report(0, good, bad);
        x.tick(1);
        return x.about(0, Setting.WHY);
    }

    private static void health() {
        DUE.by("if bad times q is more than p times all reports since then: HELD for its HEALTH (2)");
        DUE.is(0, whyAfter(1, 10, 10, 1));
        DUE.is(0, whyAfter(1, 10, 9, 1));
        DUE.is(2, whyAfter(1, 10, 8, 1));
        DUE.is(0, whyAfter(1, 3, 2, 1));
        DUE.is(2, whyAfter(333, 1000, 2, 1));
        DUE.is(0, whyAfter(334, 1000, 2, 1));
        DUE.is(0, whyAfter(0, 1, 1, 0));
        DUE.is(2, whyAfter(0, 1, 10000, 1));
        DUE.is(0, whyAfter(1, 1, 0, 1));
        DUE.is(2, whyAfter(999, 1000, 0, 1));
        DUE.is(0, whyAfter(999, 1000, 1, 999));
        DUE.is(2, whyAfter(999, 1000, 1, 1000));
        RollStages x = Setting.withWaits(1, 1);
        x.health(0, 1, 2);
        x.report(0, 1, 2);
        x.tick(1);
        DUE.text("2 0 2 10 3", Setting.about(x, 0));
    }

    private static int whyAfterMany(int p, int q, int times, int good, int bad) {
        RollStages x = Setting.withWaits(1);
        x.health(0, p, q);
        for (int i = 0; i < times; i++) {
            x.report(0, good, bad);
        }
        x.tick(1);
        return x.about(0, Setting.WHY);
    }

    /** Products that an int doesn't hold: on the one side, on the other one, and on both. */
    private static void healthOfManyReports() {
        DUE.by("exact health rules");
        DUE.is(2, whyAfterMany(1, 1000, 300, 0, 10000));
        DUE.is(0, whyAfterMany(999, 1000, 300, 10000, 1));
        DUE.is(0, whyAfterMany(500, 1000, 500, 10000, 10000));
        DUE.is(2, whyAfterMany(499, 1000, 500, 10000, 10000));
        DUE.is(0, whyAfterMany(1000, 1000, 500, 0, 10000));
        DUE.is(2, whyAfterMany(999, 1000, 500, 9, 10000));
    }

    private static void nextStage() {
        DUE.by("else it comes to the next STAGE (its reports begin anew)");
        RollStages x = new RollStages();
        Setting.fresh(x, 0);
        for (int stage = 0; stage < 5; stage++) {
            x.stage(0, 100 * stage, 2);
        }
        x.start(0);
        for (int stage = 0; stage < 5; stage++) {
            DUE.text("1 " + stage + " 0 " + 100 * stage + " 0", Setting.about(x, 0));
            x.report(0, 3, 2);
            x.tick(2);
        }
        DUE.is(Setting.FULL, x.about(0, Setting.STATE));
        // The bad ones of a stage before don't count either, nor do its good ones.
        RollStages y = Setting.withWaits(1, 1);
        y.health(0, 1, 2);
        y.report(0, 100, 0);
        y.tick(1);
        y.report(0, 0, 1);
        y.tick(1);
        DUE.is(2, y.about(0, Setting.WHY));
    }

    private static void oneStageATick() {
        DUE.by("one by one");
        RollStages x = Setting.withWaits(0, 0, 0);
        x.report(0, 1, 0);
        x.tick(1);
        DUE.text("1 1 0 10 0", Setting.about(x, 0));
        x.report(0, 1, 0);
        x.tick(1);
        DUE.text("1 2 0 10 0", Setting.about(x, 0));
        x.tick(1);
        DUE.text("2 2 1 10 0", Setting.about(x, 0));
    }

    private static void behindTheLastOne() {
        DUE.by("or, behind the last one, is FULL");
        for (int stages = 1; stages <= 5; stages++) {
            RollStages x = Setting.withWaits(new int[stages]);
            for (int stage = 0; stage < stages; stage++) {
                DUE.is(stage, x.about(0, Setting.STAGE));
                x.report(0, 1, 0);
                x.tick(1);
            }
            DUE.is(Setting.FULL, x.about(0, Setting.STATE));
            DUE.is(-1, x.about(0, Setting.STAGE));
            DUE.is(1000, x.about(0, Setting.SHARE));
        }
    }

    private static void oneByOne() {
        DUE.by("(0 .. 2000 ticks, one by one)");
        for (int ticks = 0; ticks <= 9; ticks++) {
            RollStages atOnce = Town.mixed();
            RollStages singly = Town.mixed();
            int clock = atOnce.tick(ticks);
            for (int i = 0; i < ticks; i++) {
                singly.tick(1);
            }
            DUE.is(clock, singly.tick(0));
            DUE.text(Town.later(singly), Town.later(atOnce));
        }
    }

    private static void eachRelease() {
        DUE.by("each RELEASE that is ROLLING, by its number");
        RollStages x = new RollStages();
        for (int i = 0; i < 16; i++) {
            Setting.fresh(x, i % 3);
            x.stage(i, 10, i + 1);
            x.start(i);
            x.report(i, 1, 0);
        }
        for (int tick = 1; tick <= 16; tick++) {
            x.tick(1);
            for (int i = 0; i < 16; i++) {
                DUE.is(i < tick ? Setting.FULL : Setting.ROLLING, x.about(i, Setting.STATE));
            }
        }
    }

    private static void onlyRollingOnes() {
        DUE.by("each RELEASE that is ROLLING");
        RollStages x = Town.mixed();
        int[] others = {
            Town.FRESH, Town.STAGED, Town.UNHEARD, Town.UNWELL, Town.STOPPED, Town.FULL, Town.BARRED, Town.OTHER};
        for (int ticks : new int[] {0, 1, 2, 1000, 2000}) {
            x.tick(ticks);
            for (int release : others) {
                DUE.text(Town.ABOUT[release], Setting.about(x, release));
            }
        }
    }
}
