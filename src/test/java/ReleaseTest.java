/** Promises 1 to 8 and 10: releases, their stages, rules and states. */
public final class ReleaseTest {
    private static final Due DUE = new Due("ReleaseTest");

    public static void main(String[] args) {
        newObject();
        release();
        stage();
        health();
        start();
        report();
        hold();
        revoke();
        about();
        DUE.end();
    }

    private static void newObject() {
        RollStages x = new RollStages();
        DUE.is(-1, RollStages.NONE);
        DUE.is(0, x.tick(0));
        for (int i = 0; i < 16; i++) {
            DUE.is(-1, x.about(i, Setting.STATE));
        }
        for (int i = 0; i < 30; i++) {
            DUE.is(-1, x.row(i));
        }
        DUE.is(0, x.release(0, false, 1));
        DUE.is(0, x.machine(0, 0));
        RollStages y = new RollStages();
        DUE.is(-1, y.about(0, Setting.STATE));
        DUE.is(-1, y.row(0));
    }

    private static void release() {
        RollStages x = new RollStages();
        DUE.is(-1, x.release(-1, false, 1));
        DUE.is(-1, x.release(3, false, 1));
        DUE.is(-1, x.release(Integer.MIN_VALUE, true, 1));
        DUE.is(-1, x.release(Integer.MAX_VALUE, true, 1));
        DUE.is(-1, x.release(0, false, 0));
        DUE.is(-1, x.release(0, false, -1));
        DUE.is(-1, x.release(0, false, 100001));
        DUE.is(-1, x.about(0, Setting.STATE));
        DUE.is(0, x.release(0, false, 1));
        DUE.is(1, x.release(2, true, 100000));
        for (int i = 2; i < 16; i++) {
            DUE.is(i, x.release(i % 3, i % 2 == 0, 1000));
        }
        DUE.is(-1, x.release(0, false, 1));
        DUE.is(-1, x.about(16, Setting.STATE));
        DUE.is(0, x.about(15, Setting.STATE));
        int machine = x.machine(0, 0);
        x.pin(machine, 0);
        DUE.is(1, x.cost(machine));
        x.pin(machine, 1);
        DUE.is(100000, x.cost(machine));
    }

    private static void stage() {
        RollStages x = new RollStages();
        Setting.fresh(x, 0);
        for (int wrong : Setting.WRONG_NUMBERS) {
            DUE.no(x.stage(wrong, 100, 1));
        }
        DUE.no(x.stage(1, 100, 1));
        DUE.no(x.stage(0, -1, 1));
        DUE.no(x.stage(0, 1001, 1));
        DUE.no(x.stage(0, 100, -1));
        DUE.no(x.stage(0, 100, 1001));
        DUE.no(x.start(0));
        DUE.yes(x.stage(0, 0, 0));
        DUE.yes(x.stage(0, 0, 1000));
        DUE.yes(x.stage(0, 300, 1));
        DUE.no(x.stage(0, 299, 1));
        DUE.yes(x.stage(0, 300, 1));
        DUE.yes(x.stage(0, 1000, 1));
        DUE.no(x.stage(0, 1000, 1));
        Setting.fresh(x, 0);
        DUE.yes(x.stage(1, 5, 1));
        DUE.yes(x.start(1));
        DUE.no(x.stage(1, 5, 1));
        Setting.fresh(x, 0);
        x.revoke(2);
        DUE.no(x.stage(2, 5, 1));
        DUE.no(x.stage(Setting.full(x, 0), 1000, 1));
    }

    private static void health() {
        RollStages x = new RollStages();
        Setting.fresh(x, 0);
        for (int wrong : Setting.WRONG_NUMBERS) {
            DUE.no(x.health(wrong, 1, 1));
        }
        DUE.no(x.health(1, 1, 1));
        DUE.no(x.health(0, 0, 0));
        DUE.no(x.health(0, 0, -1));
        DUE.no(x.health(0, 0, 1001));
        DUE.no(x.health(0, -1, 1));
        DUE.no(x.health(0, 2, 1));
        DUE.yes(x.health(0, 0, 1));
        DUE.yes(x.health(0, 1000, 1000));
        DUE.yes(x.health(0, 0, 1000));
        x.revoke(0);
        DUE.yes(x.health(0, 1, 2));
        DUE.yes(x.health(Setting.full(x, 0), 1, 2));
        healthOfOneOfOneAtFirst();
        healthThatWasRefusedChangesNothing();
        healthWhileRolling();
    }

    private static void healthOfOneOfOneAtFirst() {
        RollStages x = new RollStages();
        Setting.rolling(x, 0, false, 10);
        x.report(0, 0, 10000);
        x.tick(1);
        DUE.is(Setting.FULL, x.about(0, Setting.STATE));
    }

    private static void healthThatWasRefusedChangesNothing() {
        RollStages x = new RollStages();
        Setting.rolling(x, 0, false, 10);
        DUE.no(x.health(0, 0, 1001));
        DUE.no(x.health(0, -1, 7));
        x.report(0, 0, 5);
        x.tick(1);
        DUE.is(Setting.FULL, x.about(0, Setting.STATE));
    }

    private static void healthWhileRolling() {
        RollStages x = new RollStages();
        Setting.rolling(x, 0, false, 10);
        x.report(0, 1, 1);
        DUE.yes(x.health(0, 1, 3));
        x.tick(1);
        DUE.is(2, x.about(0, Setting.WHY));
        DUE.yes(x.health(0, 1, 2));
        x.hold(0, false);
        x.report(0, 1, 1);
        x.tick(1);
        DUE.is(Setting.FULL, x.about(0, Setting.STATE));
    }

    private static void start() {
        RollStages x = new RollStages();
        Setting.fresh(x, 0);
        for (int wrong : Setting.WRONG_NUMBERS) {
            DUE.no(x.start(wrong));
        }
        DUE.no(x.start(1));
        DUE.no(x.start(0));
        DUE.is(Setting.NEW, x.about(0, Setting.STATE));
        x.stage(0, 10, 5);
        DUE.yes(x.start(0));
        DUE.is(Setting.ROLLING, x.about(0, Setting.STATE));
        DUE.is(0, x.about(0, Setting.STAGE));
        DUE.no(x.start(0));
        x.hold(0, true);
        DUE.no(x.start(0));
        x.revoke(0);
        DUE.no(x.start(0));
        DUE.no(x.start(Setting.full(x, 0)));
        startBeginsTheWait();
    }

    private static void startBeginsTheWait() {
        RollStages x = new RollStages();
        Setting.fresh(x, 0);
        x.stage(0, 10, 5);
        x.tick(100);
        x.start(0);
        x.tick(4);
        DUE.is(Setting.ROLLING, x.about(0, Setting.STATE));
        x.tick(1);
        DUE.is(Setting.HELD, x.about(0, Setting.STATE));
    }

    private static void report() {
        RollStages x = new RollStages();
        Setting.fresh(x, 0);
        x.stage(0, 10, 5);
        DUE.no(x.report(0, 1, 1));
        x.start(0);
        for (int wrong : Setting.WRONG_NUMBERS) {
            DUE.no(x.report(wrong, 1, 1));
        }
        DUE.no(x.report(1, 1, 1));
        DUE.no(x.report(0, -1, 1));
        DUE.no(x.report(0, 1, -1));
        DUE.no(x.report(0, 10001, 1));
        DUE.no(x.report(0, 1, 10001));
        DUE.is(0, x.about(0, Setting.REPORTS));
        DUE.yes(x.report(0, 0, 0));
        DUE.is(0, x.about(0, Setting.REPORTS));
        DUE.yes(x.report(0, 10000, 10000));
        DUE.yes(x.report(0, 3, 4));
        DUE.is(20007, x.about(0, Setting.REPORTS));
        x.hold(0, true);
        DUE.no(x.report(0, 1, 1));
        DUE.is(20007, x.about(0, Setting.REPORTS));
        x.revoke(0);
        DUE.no(x.report(0, 1, 1));
        DUE.no(x.report(Setting.full(x, 0), 1, 1));
    }

    private static void hold() {
        RollStages x = new RollStages();
        Setting.fresh(x, 0);
        for (int wrong : Setting.WRONG_NUMBERS) {
            DUE.no(x.hold(wrong, true));
            DUE.no(x.hold(wrong, false));
        }
        DUE.no(x.hold(1, true));
        DUE.no(x.hold(0, true));
        DUE.no(x.hold(0, false));
        x.stage(0, 10, 5);
        x.start(0);
        DUE.no(x.hold(0, false));
        x.report(0, 2, 1);
        DUE.yes(x.hold(0, true));
        DUE.no(x.hold(0, true));
        DUE.is(Setting.HELD, x.about(0, Setting.STATE));
        DUE.is(3, x.about(0, Setting.WHY));
        DUE.is(0, x.about(0, Setting.STAGE));
        x.tick(100);
        DUE.is(3, x.about(0, Setting.WHY));
        DUE.yes(x.hold(0, false));
        DUE.is(Setting.ROLLING, x.about(0, Setting.STATE));
        DUE.is(0, x.about(0, Setting.WHY));
        DUE.is(0, x.about(0, Setting.REPORTS));
        x.tick(4);
        DUE.is(Setting.ROLLING, x.about(0, Setting.STATE));
        x.tick(1);
        DUE.is(1, x.about(0, Setting.WHY));
        x.revoke(0);
        DUE.no(x.hold(0, true));
        DUE.no(x.hold(0, false));
        int full = Setting.full(x, 0);
        DUE.no(x.hold(full, true));
        DUE.no(x.hold(full, false));
        goingOnKeepsTheStage();
    }

    private static void goingOnKeepsTheStage() {
        RollStages x = new RollStages();
        Setting.fresh(x, 0);
        x.stage(0, 10, 1);
        x.stage(0, 20, 1);
        x.stage(0, 30, 1);
        x.start(0);
        x.report(0, 1, 0);
        x.tick(1);
        x.hold(0, true);
        DUE.is(1, x.about(0, Setting.STAGE));
        x.hold(0, false);
        DUE.is(1, x.about(0, Setting.STAGE));
        DUE.is(20, x.about(0, Setting.SHARE));
    }

    private static void revoke() {
        RollStages x = new RollStages();
        for (int wrong : Setting.WRONG_NUMBERS) {
            DUE.no(x.revoke(wrong));
        }
        DUE.no(x.revoke(0));
        int fresh = Setting.fresh(x, 0);
        int rolling = Setting.rolling(x, 0, false, 10);
        int held = Setting.rolling(x, 0, true, 10);
        x.hold(held, true);
        int full = Setting.full(x, 0);
        for (int release : new int[] {fresh, rolling, held, full}) {
            DUE.yes(x.revoke(release));
            DUE.no(x.revoke(release));
            DUE.is(Setting.REVOKED, x.about(release, Setting.STATE));
            DUE.is(-1, x.about(release, Setting.STAGE));
            DUE.is(0, x.about(release, Setting.WHY));
            DUE.is(0, x.about(release, Setting.SHARE));
            DUE.no(x.start(release));
            x.tick(5);
            DUE.is(Setting.REVOKED, x.about(release, Setting.STATE));
        }
    }

    private static void about() {
        RollStages x = new RollStages();
        Setting.fresh(x, 0);
        for (int wrong : Setting.WRONG_NUMBERS) {
            DUE.is(-1, x.about(wrong, Setting.STATE));
            DUE.is(-1, x.about(wrong, Setting.WHY));
        }
        DUE.is(-1, x.about(1, Setting.SHARE));
        DUE.is(-1, x.about(0, -1));
        DUE.is(-1, x.about(0, 5));
        DUE.is(-1, x.about(0, Integer.MIN_VALUE));
        DUE.is(-1, x.about(0, Integer.MAX_VALUE));
        x.stage(0, 150, 1);
        x.stage(0, 400, 1);
        isAbout(x, Setting.NEW, -1, 0, 0, 0);
        x.start(0);
        isAbout(x, Setting.ROLLING, 0, 0, 150, 0);
        x.report(0, 4, 1);
        isAbout(x, Setting.ROLLING, 0, 0, 150, 5);
        x.tick(1);
        isAbout(x, Setting.ROLLING, 1, 0, 400, 0);
        x.health(0, 0, 1);
        x.report(0, 4, 2);
        x.tick(1);
        isAbout(x, Setting.HELD, 1, 2, 400, 6);
        x.hold(0, false);
        x.report(0, 7, 0);
        x.tick(1);
        // The wait of the last stage is the last one that began, so its reports are still told.
        isAbout(x, Setting.FULL, -1, 0, 1000, 7);
        x.revoke(0);
        isAbout(x, Setting.REVOKED, -1, 0, 0, 7);
    }

    private static void isAbout(RollStages x, int state, int stage, int why, int share, int reports) {
        String want = state + " " + stage + " " + why + " " + share + " " + reports;
        StringBuilder got = new StringBuilder();
        for (int what = Setting.STATE; what <= Setting.REPORTS; what++) {
            got.append(what == 0 ? "" : " ").append(x.about(0, what));
        }
        DUE.text(want, got.toString());
    }
}
