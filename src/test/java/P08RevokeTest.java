/** Promise 8: revoke. */
public final class P08RevokeTest {
    private static final Due DUE = new Due("Promise 8, revoke");

    public static void main(String[] args) {
        fromEveryState();
        forGood();
        noneSuch();
        itIs();
        DUE.end();
    }

    private static void fromEveryState() {
        DUE.by("REVOKING: REVOKED");
        for (int release = 0; release < Town.RELEASES; release++) {
            if (release != Town.BARRED) {
                RollStages x = Town.mixed();
                DUE.yes(x.revoke(release));
                DUE.is(Setting.REVOKED, x.about(release, Setting.STATE));
                DUE.is(-1, x.about(release, Setting.STAGE));
                DUE.is(0, x.about(release, Setting.WHY));
                DUE.is(0, x.about(release, Setting.SHARE));
            }
        }
    }

    private static void forGood() {
        DUE.by("REVOKED, for good");
        for (int release = 0; release < Town.RELEASES; release++) {
            RollStages x = Town.mixed();
            x.revoke(release);
            DUE.no(x.stage(release, 1000, 1));
            DUE.no(x.start(release));
            DUE.no(x.report(release, 1, 0));
            DUE.no(x.hold(release, true));
            DUE.no(x.hold(release, false));
            x.tick(2000);
            DUE.is(Setting.REVOKED, x.about(release, Setting.STATE));
            DUE.no(x.may(release > Town.BARRED ? 3 : 0, release));
        }
    }

    private static void noneSuch() {
        DUE.by("REVOKING; false if there is none such");
        Refused mixed = new Refused(DUE, Town::mixed);
        for (int wrong : Setting.notBelow(Town.RELEASES)) {
            mixed.no(x -> x.revoke(wrong));
        }
        RollStages x = new RollStages();
        for (int number = 0; number < 16; number++) {
            DUE.no(x.revoke(number));
            Setting.fresh(x, 0);
            DUE.yes(x.revoke(number));
        }
        DUE.no(x.revoke(16));
    }

    private static void itIs() {
        DUE.by("false if there is none such, or it is.");
        new Refused(DUE, Town::mixed).no(x -> x.revoke(Town.BARRED));
        for (int release = 0; release < Town.RELEASES; release++) {
            RollStages x = Town.mixed();
            x.revoke(release);
            DUE.no(x.revoke(release));
            DUE.is(Setting.REVOKED, x.about(release, Setting.STATE));
        }
    }
}
