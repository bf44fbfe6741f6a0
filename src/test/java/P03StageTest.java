/** Promise 3: stage. */
public final class P03StageTest {
    private static final Due DUE = new Due("Promise 3, stage");

    public static void main(String[] args) {
        oneMore();
        noSuchRelease();
        itIsntNew();
        itHasFive();
        shares();
        noneLessThanTheOneBefore();
        onlyTakenOnesAreBefore();
        waits();
        refusedForItsNumbers();
        refusedBehindFive();
        DUE.end();
    }

    private static void oneMore() {
        DUE.by("A STAGE more");
        RollStages x = new RollStages();
        Setting.fresh(x, 0);
        DUE.no(x.start(0));
        DUE.yes(x.stage(0, 100, 1));
        DUE.yes(x.stage(0, 250, 1));
        DUE.text("0 -1 0 0 0", Setting.about(x, 0));
        x.start(0);
        DUE.is(100, x.about(0, Setting.SHARE));
        x.report(0, 1, 0);
        x.tick(1);
        DUE.is(250, x.about(0, Setting.SHARE));
        x.report(0, 1, 0);
        x.tick(1);
        DUE.is(Setting.FULL, x.about(0, Setting.STATE));
    }

    private static void noSuchRelease() {
        DUE.by("false if there is no such RELEASE, it isn't NEW");
        Refused mixed = new Refused(DUE, Town::mixed);
        for (int wrong : Setting.notBelow(Town.RELEASES)) {
            mixed.no(x -> x.stage(wrong, 700, 1));
        }
        RollStages x = new RollStages();
        for (int number = 0; number < 16; number++) {
            DUE.no(x.stage(number, 0, 0));
            Setting.fresh(x, 0);
            DUE.yes(x.stage(number, 0, 0));
        }
        DUE.no(x.stage(16, 0, 0));
    }

    private static void itIsntNew() {
        DUE.by("it isn't NEW");
        Refused mixed = new Refused(DUE, Town::mixed);
        for (int release = Town.ROLLING; release < Town.RELEASES; release++) {
            int one = release;
            mixed.no(x -> x.stage(one, 900, 1));
            mixed.no(x -> x.stage(one, 1000, 0));
        }
        RollStages x = Town.mixed();
        DUE.yes(x.stage(Town.FRESH, 900, 1));
        DUE.yes(x.stage(Town.STAGED, 900, 1));
        // A new one that is revoked is new no longer.
        x.revoke(Town.FRESH);
        DUE.no(x.stage(Town.FRESH, 900, 1));
    }

    private static void itHasFive() {
        DUE.by("have STAGES, at most 5");
        RollStages x = new RollStages();
        Setting.fresh(x, 0);
        for (int number = 0; number < 5; number++) {
            DUE.yes(x.stage(0, 100 * number, 1));
        }
        DUE.no(x.stage(0, 400, 1));
        DUE.no(x.stage(0, 1000, 1));
        DUE.no(x.stage(0, 1000, 0));
        x.start(0);
        for (int number = 0; number < 5; number++) {
            DUE.is(number, x.about(0, Setting.STAGE));
            DUE.is(100 * number, x.about(0, Setting.SHARE));
            x.report(0, 1, 0);
            x.tick(1);
        }
        DUE.is(Setting.FULL, x.about(0, Setting.STATE));
        // Each release has 5 of its own.
        Setting.fresh(x, 0);
        DUE.yes(x.stage(1, 0, 0));
    }

    private static void shares() {
        DUE.by("a SHARE (0 .. 1000 thousandths");
        RollStages x = new RollStages();
        Setting.fresh(x, 0);
        for (int wrong : new int[] {-1, -2, Setting.LOWEST, 1001, 1002, Setting.HIGHEST, 1 << 16}) {
            DUE.no(x.stage(0, wrong, 1));
        }
        DUE.no(x.start(0));
        DUE.yes(x.stage(0, 0, 1));
        DUE.no(x.stage(0, -1, 1));
        DUE.yes(x.stage(0, 999, 1));
        DUE.no(x.stage(0, 1001, 1));
        DUE.yes(x.stage(0, 1000, 1));
        DUE.no(x.stage(0, 1001, 1));
        x.start(0);
        for (int due : new int[] {0, 999, 1000}) {
            DUE.is(due, x.about(0, Setting.SHARE));
            x.report(0, 1, 0);
            x.tick(1);
        }
        RollStages y = new RollStages();
        Setting.fresh(y, 0);
        DUE.yes(y.stage(0, 1000, 1));
        DUE.yes(y.stage(0, 1000, 1));
    }

    private static void noneLessThanTheOneBefore() {
        DUE.by("none less than the one before");
        RollStages x = new RollStages();
        Setting.fresh(x, 0);
        Setting.fresh(x, 0);
        DUE.yes(x.stage(0, 300, 1));
        DUE.no(x.stage(0, 299, 1));
        DUE.no(x.stage(0, 0, 1));
        DUE.yes(x.stage(0, 300, 1));
        DUE.yes(x.stage(0, 301, 1));
        DUE.no(x.stage(0, 300, 1));
        DUE.yes(x.stage(0, 1000, 1));
        DUE.no(x.stage(0, 999, 1));
        // Another release's stages are none before it.
        DUE.yes(x.stage(1, 0, 1));
        DUE.no(x.stage(1, -1, 1));
    }

    private static void onlyTakenOnesAreBefore() {
        DUE.by("or SHARE or WAIT aren't as told");
        RollStages x = new RollStages();
        Setting.fresh(x, 0);
        DUE.no(x.stage(0, 900, 1001));
        DUE.yes(x.stage(0, 300, 1));
        DUE.no(x.stage(0, 800, -1));
        DUE.no(x.stage(0, 100, 1));
        DUE.yes(x.stage(0, 300, 1));
        x.start(0);
        x.report(0, 1, 0);
        x.tick(1);
        DUE.is(300, x.about(0, Setting.SHARE));
        DUE.is(1, x.about(0, Setting.STAGE));
        x.report(0, 1, 0);
        x.tick(1);
        DUE.is(Setting.FULL, x.about(0, Setting.STATE));
    }

    private static void waits() {
        DUE.by("a WAIT (0 .. 1000 ticks)");
        RollStages x = new RollStages();
        Setting.fresh(x, 0);
        for (int wrong : new int[] {-1, -2, Setting.LOWEST, 1001, 1002, Setting.HIGHEST, 1 << 16}) {
            DUE.no(x.stage(0, 10, wrong));
        }
        DUE.no(x.start(0));
        DUE.yes(x.stage(0, 10, 0));
        DUE.yes(x.stage(0, 10, 1000));
        DUE.yes(x.stage(0, 10, 0));
        DUE.yes(x.stage(0, 10, 999));
        x.start(0);
        leavesAfter(x, 0, 1);
        leavesAfter(x, 1, 1000);
        leavesAfter(x, 2, 1);
        leavesAfter(x, 3, 999);
        DUE.is(Setting.FULL, x.about(0, Setting.STATE));
    }

    private static void leavesAfter(RollStages x, int stage, int ticks) {
        x.report(0, 1, 0);
        x.tick(ticks - 1);
        DUE.is(stage, x.about(0, Setting.STAGE));
        x.tick(1);
        DUE.no(x.about(0, Setting.STAGE) == stage);
    }

    private static void refusedForItsNumbers() {
        DUE.by("false if there is no such RELEASE, it isn't NEW, it has 5, or SHARE or WAIT aren't as told");
        Refused mixed = new Refused(DUE, Town::mixed);
        mixed.no(x -> x.stage(Town.FRESH, -1, 1));
        mixed.no(x -> x.stage(Town.FRESH, 1001, 1));
        mixed.no(x -> x.stage(Town.FRESH, 900, -1));
        mixed.no(x -> x.stage(Town.FRESH, 900, 1001));
        mixed.no(x -> x.stage(Town.STAGED, 399, 1));
        mixed.no(x -> x.stage(Town.STAGED, 900, 1001));
        mixed.no(x -> x.stage(Town.STAGED, 1001, 1001));
    }

    private static void refusedBehindFive() {
        DUE.by("it has 5");
        Refused five = new Refused(DUE, P03StageTest::withFive);
        five.no(x -> x.stage(0, 500, 1));
        five.no(x -> x.stage(0, 1000, 1000));
        five.no(x -> x.stage(0, 100, 1));
    }

    private static RollStages withFive() {
        RollStages x = new RollStages();
        Setting.fresh(x, 0);
        for (int number = 0; number < 5; number++) {
            x.stage(0, 500, 1);
        }
        return x;
    }
}
