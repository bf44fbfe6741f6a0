/** Promise 5: start. */
public final class P05StartTest {
    private static final Due DUE = new Due("Promise 5, start");

    public static void main(String[] args) {
        rollsAtStageZero();
        noneSuch();
        itIsntNew();
        hasNoStage();
        theWaitBegins();
        DUE.end();
    }

    private static void rollsAtStageZero() {
        DUE.by("ROLLING, at STAGE 0");
        for (int stages = 1; stages <= 5; stages++) {
            RollStages x = new RollStages();
            Setting.fresh(x, 0);
            for (int number = 0; number < stages; number++) {
                x.stage(0, 150 + number, 1);
            }
            DUE.text("0 -1 0 0 0", Setting.about(x, 0));
            DUE.yes(x.start(0));
            DUE.text("1 0 0 150 0", Setting.about(x, 0));
        }
    }

    private static void noneSuch() {
        DUE.by("A RELEASE STARTS; false if there is none such");
        Refused mixed = new Refused(DUE, Town::mixed);
        for (int wrong : Setting.notBelow(Town.RELEASES)) {
            mixed.no(x -> x.start(wrong));
        }
        RollStages x = new RollStages();
        for (int number = 0; number < 16; number++) {
            DUE.no(x.start(number));
            Setting.fresh(x, 0);
            x.stage(number, 0, 0);
            DUE.yes(x.start(number));
        }
        DUE.no(x.start(16));
    }

    private static void itIsntNew() {
        DUE.by("it isn't NEW, or has no STAGE");
        Refused mixed = new Refused(DUE, Town::mixed);
        for (int release = Town.ROLLING; release < Town.RELEASES; release++) {
            int one = release;
            mixed.no(x -> x.start(one));
        }
        RollStages x = Setting.withWaits(5);
        x.report(0, 2, 1);
        DUE.no(x.start(0));
        DUE.text("1 0 0 10 3", Setting.about(x, 0));
        x.revoke(0);
        DUE.no(x.start(0));
        Setting.fresh(x, 0);
        x.stage(1, 10, 1);
        x.revoke(1);
        DUE.no(x.start(1));
        DUE.is(Setting.REVOKED, x.about(1, Setting.STATE));
    }

    private static void hasNoStage() {
        DUE.by("(from NEW, with a STAGE at least)");
        new Refused(DUE, Town::mixed).no(x -> x.start(Town.FRESH));
        RollStages x = new RollStages();
        Setting.fresh(x, 0);
        DUE.no(x.start(0));
        DUE.is(Setting.NEW, x.about(0, Setting.STATE));
        // A refused stage is none.
        DUE.no(x.stage(0, 1001, 1));
        DUE.no(x.start(0));
        DUE.yes(x.stage(0, 10, 5));
        DUE.yes(x.start(0));
    }

    private static void theWaitBegins() {
        DUE.by("as many ticks or more since it came to the STAGE");
        RollStages x = new RollStages();
        Setting.fresh(x, 0);
        x.stage(0, 10, 5);
        x.tick(100);
        x.start(0);
        x.report(0, 1, 0);
        x.tick(4);
        DUE.is(Setting.ROLLING, x.about(0, Setting.STATE));
        x.tick(1);
        DUE.is(Setting.FULL, x.about(0, Setting.STATE));
    }
}
