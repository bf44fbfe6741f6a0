/** Promise 9: the clock, the waits and the health rules. */
public final class TickTest {
    private static final Due DUE = new Due("TickTest");

    public static void main(String[] args) {
        clock();
        waits();
        waitOfNothing();
        oneStageATick();
        wantOfReports();
        exactHealth();
        manyReports();
        reportsBeginAnew();
        manyTicksAtOnce();
        releasesAlone();
        DUE.end();
    }

    private static RollStages withStages(int... waits) {
        RollStages x = new RollStages();
        Setting.fresh(x, 0);
        for (int wait : waits) {
            x.stage(0, 10, wait);
        }
        x.start(0);
        return x;
    }

    private static void clock() {
        RollStages x = new RollStages();
        DUE.is(0, x.tick(0));
        DUE.is(-1, x.tick(-1));
        DUE.is(-1, x.tick(2001));
        DUE.is(-1, x.tick(Integer.MIN_VALUE));
        DUE.is(-1, x.tick(Integer.MAX_VALUE));
        DUE.is(2000, x.tick(2000));
        DUE.is(2001, x.tick(1));
        DUE.is(2001, x.tick(0));
        RollStages refused = withStages(1);
        refused.tick(-1);
        refused.tick(2001);
        DUE.is(Setting.ROLLING, refused.about(0, Setting.STATE));
    }

    private static void waits() {
        RollStages x = withStages(1000, 3);
        x.report(0, 1, 0);
        x.tick(999);
        DUE.is(0, x.about(0, Setting.STAGE));
        x.tick(1);
        DUE.is(1, x.about(0, Setting.STAGE));
        x.report(0, 1, 0);
        x.tick(2);
        DUE.is(1, x.about(0, Setting.STAGE));
        x.tick(1);
        DUE.is(Setting.FULL, x.about(0, Setting.STATE));
    }

    private static void waitOfNothing() {
        RollStages x = withStages(0);
        x.report(0, 1, 0);
        x.tick(0);
        DUE.is(Setting.ROLLING, x.about(0, Setting.STATE));
        x.tick(1);
        DUE.is(Setting.FULL, x.about(0, Setting.STATE));
    }

    private static void oneStageATick() {
        RollStages x = withStages(0, 0);
        x.report(0, 1, 0);
        x.tick(1);
        DUE.is(1, x.about(0, Setting.STAGE));
        DUE.is(Setting.ROLLING, x.about(0, Setting.STATE));
        x.tick(1);
        DUE.is(1, x.about(0, Setting.WHY));
    }

    private static void wantOfReports() {
        RollStages x = withStages(2);
        x.report(0, 0, 0);
        x.tick(1);
        DUE.is(Setting.ROLLING, x.about(0, Setting.STATE));
        x.tick(1);
        DUE.is(Setting.HELD, x.about(0, Setting.STATE));
        DUE.is(1, x.about(0, Setting.WHY));
        DUE.is(0, x.about(0, Setting.STAGE));
    }

    private static int whyAfter(int p, int q, int good, int bad) {
        RollStages x = withStages(1, 1);
        x.health(0, p, q);
        x.report(0, good, bad);
        x.tick(1);
        return x.about(0, Setting.WHY);
    }

    private static void exactHealth() {
        DUE.is(0, whyAfter(1, 10, 9, 1));
        DUE.is(2, whyAfter(1, 10, 8, 1));
        DUE.is(0, whyAfter(1, 3, 2, 1));
        DUE.is(2, whyAfter(333, 1000, 2, 1));
        DUE.is(0, whyAfter(334, 1000, 2, 1));
        DUE.is(0, whyAfter(0, 1, 10000, 0));
        DUE.is(2, whyAfter(0, 1000, 10000, 1));
        DUE.is(0, whyAfter(1000, 1000, 0, 10000));
        DUE.is(2, whyAfter(999, 1000, 0, 1));
    }

    private static void manyReports() {
        // 300 times 10000 bad ones of 1000 are more than an int holds.
        RollStages x = withStages(1);
        x.health(0, 1, 1000);
        for (int i = 0; i < 300; i++) {
            x.report(0, 0, 10000);
        }
        DUE.is(3000000, x.about(0, Setting.REPORTS));
        x.tick(1);
        DUE.is(2, x.about(0, Setting.WHY));
        RollStages y = withStages(1);
        y.health(0, 500, 1000);
        for (int i = 0; i < 300; i++) {
            y.report(0, 10000, 10000);
        }
        y.tick(1);
        DUE.is(Setting.FULL, y.about(0, Setting.STATE));
    }

    private static void reportsBeginAnew() {
        RollStages x = withStages(1, 1);
        x.health(0, 1, 2);
        x.report(0, 10, 0);
        x.tick(1);
        DUE.is(0, x.about(0, Setting.REPORTS));
        x.report(0, 0, 1);
        x.tick(1);
        DUE.is(2, x.about(0, Setting.WHY));
        DUE.is(1, x.about(0, Setting.REPORTS));
        x.hold(0, false);
        x.tick(1);
        DUE.is(1, x.about(0, Setting.WHY));
    }

    private static void manyTicksAtOnce() {
        RollStages x = withStages(5, 7, 1);
        x.report(0, 1, 0);
        x.tick(11);
        DUE.is(1, x.about(0, Setting.STAGE));
        DUE.is(Setting.ROLLING, x.about(0, Setting.STATE));
        x.report(0, 1, 0);
        DUE.is(12, x.tick(1));
        DUE.is(2, x.about(0, Setting.STAGE));
        x.report(0, 1, 0);
        x.tick(2000);
        DUE.is(Setting.FULL, x.about(0, Setting.STATE));
        RollStages y = withStages(5, 7, 1);
        y.report(0, 1, 0);
        y.tick(2000);
        DUE.is(Setting.HELD, y.about(0, Setting.STATE));
        DUE.is(1, y.about(0, Setting.WHY));
        DUE.is(1, y.about(0, Setting.STAGE));
    }

    private static void releasesAlone() {
        RollStages x = new RollStages();
        for (int i = 0; i < 16; i++) {
            Setting.fresh(x, i % 3);
            x.stage(i, 10, i + 1);
            x.start(i);
            x.report(i, 1, 0);
        }
        for (int tick = 1; tick <= 16; tick++) {
            x.tick(1);
            for (int i = 0; i < 16; i++) {
                DUE.is(i < tick ? Setting.FULL : Setting.ROLLING, x.about(i, Setting.STATE));
            }
        }
    }
}
