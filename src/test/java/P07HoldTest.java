/** Promise 7: hold. */
public final class P07HoldTest {
    private static final Due DUE = new Due("Promise 7, hold");

    public static void main(String[] args) {
        holding();
        goingOn();
        noneSuch();
        holdingInAnotherState();
        goingOnInAnotherState();
        theSameStage();
        waitBeginsAnew();
        reportsBeginAnew();
        heldOnesDontMove();
        DUE.end();
    }

    private static void holding() {
        DUE.by("HOLDING one that is ROLLING: HELD by hand (3)");
        RollStages x = Setting.withWaits(5);
        x.report(0, 2, 1);
        DUE.yes(x.hold(0, true));
        DUE.text("2 0 3 10 3", Setting.about(x, 0));
        // Of a wait of 0, before and behind the tick that ends it.
        RollStages y = Setting.withWaits(0, 0);
        DUE.yes(y.hold(0, true));
        y.hold(0, false);
        y.report(0, 1, 0);
        y.tick(1);
        DUE.yes(y.hold(0, true));
        DUE.text("2 1 3 10 0", Setting.about(y, 0));
    }

    private static void goingOn() {
        DUE.by("GOING ON of one that is HELD: ROLLING at the same STAGE");
        for (int release : new int[] {Town.UNHEARD, Town.UNWELL, Town.STOPPED}) {
            RollStages x = Town.mixed();
            DUE.is(Setting.HELD, x.about(release, Setting.STATE));
            int share = x.about(release, Setting.SHARE);
            DUE.yes(x.hold(release, false));
            DUE.text("1 0 0 " + share + " 0", Setting.about(x, release));
        }
    }

    private static void noneSuch() {
        DUE.by("HOLDING (on), or GOING ON; false if there is none such");
        Refused mixed = new Refused(DUE, Town::mixed);
        for (int wrong : Setting.notBelow(Town.RELEASES)) {
            mixed.no(x -> x.hold(wrong, true));
            mixed.no(x -> x.hold(wrong, false));
        }
        RollStages x = new RollStages();
        for (int number = 0; number < 16; number++) {
            DUE.no(x.hold(number, true));
            DUE.no(x.hold(number, false));
            Setting.rolling(x, 0, false, 10);
            DUE.yes(x.hold(number, true));
            DUE.yes(x.hold(number, false));
        }
        DUE.no(x.hold(16, true));
        DUE.no(x.hold(16, false));
    }

    private static void holdingInAnotherState() {
        DUE.by("or it isn't in the state for it");
        Refused mixed = new Refused(DUE, Town::mixed);
        for (int release = 0; release < Town.RELEASES; release++) {
            int one = release;
            if (one != Town.ROLLING && one != Town.URGENT) {
                mixed.no(x -> x.hold(one, true));
            }
        }
        // Why it is held stays.
        RollStages x = Town.mixed();
        x.hold(Town.UNHEARD, true);
        x.hold(Town.UNWELL, true);
        DUE.is(1, x.about(Town.UNHEARD, Setting.WHY));
        DUE.is(2, x.about(Town.UNWELL, Setting.WHY));
    }

    private static void goingOnInAnotherState() {
        DUE.by("or it isn't in the state for it");
        Refused mixed = new Refused(DUE, Town::mixed);
        int[] others = {
            Town.FRESH, Town.STAGED, Town.ROLLING, Town.FULL, Town.BARRED, Town.URGENT, Town.OTHER};
        for (int release : others) {
            mixed.no(x -> x.hold(release, false));
        }
        // Neither its reports nor its wait begin anew.
        RollStages x = Setting.withWaits(3);
        x.report(0, 1, 0);
        x.tick(2);
        DUE.no(x.hold(0, false));
        DUE.is(1, x.about(0, Setting.REPORTS));
        x.tick(1);
        DUE.is(Setting.FULL, x.about(0, Setting.STATE));
    }

    private static void theSameStage() {
        DUE.by("ROLLING at the same STAGE");
        RollStages x = new RollStages();
        Setting.fresh(x, 0);
        for (int stage = 0; stage < 5; stage++) {
            x.stage(0, 100 + stage, 1);
        }
        x.start(0);
        for (int stage = 0; stage < 5; stage++) {
            x.hold(0, true);
            DUE.text("2 " + stage + " 3 " + (100 + stage) + " 0", Setting.about(x, 0));
            x.hold(0, false);
            DUE.text("1 " + stage + " 0 " + (100 + stage) + " 0", Setting.about(x, 0));
            x.report(0, 1, 0);
            x.tick(1);
        }
        DUE.is(Setting.FULL, x.about(0, Setting.STATE));
    }

    private static void waitBeginsAnew() {
        DUE.by("its WAIT and reports begin anew");
        RollStages x = Setting.withWaits(5, 1);
        x.tick(4);
        x.hold(0, true);
        x.tick(3);
        x.hold(0, false);
        x.report(0, 1, 0);
        x.tick(4);
        DUE.is(0, x.about(0, Setting.STAGE));
        x.tick(1);
        DUE.is(1, x.about(0, Setting.STAGE));
        // Held and gone on without a tick between: anew all the same.
        RollStages y = Setting.withWaits(2, 1);
        y.tick(1);
        y.hold(0, true);
        y.hold(0, false);
        y.report(0, 1, 0);
        y.tick(1);
        DUE.is(0, y.about(0, Setting.STAGE));
        y.tick(1);
        DUE.is(1, y.about(0, Setting.STAGE));
    }

    private static void reportsBeginAnew() {
        DUE.by("its WAIT and reports begin anew");
        RollStages x = Setting.withWaits(1, 1);
        x.health(0, 1, 2);
        x.report(0, 0, 9);
        x.hold(0, true);
        DUE.is(9, x.about(0, Setting.REPORTS));
        x.hold(0, false);
        DUE.is(0, x.about(0, Setting.REPORTS));
        x.report(0, 1, 1);
        x.tick(1);
        DUE.is(1, x.about(0, Setting.STAGE));
        x.report(0, 5, 0);
        x.hold(0, true);
        x.hold(0, false);
        x.tick(1);
        DUE.is(1, x.about(0, Setting.WHY));
    }

    private static void heldOnesDontMove() {
        DUE.by("each RELEASE that is ROLLING");
        for (int release : new int[] {Town.UNHEARD, Town.UNWELL, Town.STOPPED}) {
            RollStages x = Town.mixed();
            x.tick(2000);
            DUE.text(Town.ABOUT[release], Setting.about(x, release));
        }
    }
}
