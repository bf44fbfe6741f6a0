/** Promise 10: about. */
public final class P10AboutTest {
    private static final Due DUE = new Due("Promise 10, about");

    public static void main(String[] args) {
        states();
        stages();
        whys();
        shares();
        leastShare();
        reports();
        reportsOfTheLastWait();
        noneSuch();
        anotherWhat();
        asksChangeNothing();
        DUE.end();
    }

    private static void states() {
        DUE.by("0 NEW, 1 ROLLING, 2 HELD, 3 FULL, 4 REVOKED");
        RollStages x = Town.mixed();
        int[] due = {0, 0, 1, 2, 2, 2, 3, 4, 1, 3};
        for (int release = 0; release < due.length; release++) {
            DUE.is(due[release], x.about(release, 0));
        }
    }

    private static void stages() {
        DUE.by("1 STAGE (NONE if NEW, FULL or REVOKED)");
        RollStages x = Town.mixed();
        int[] due = {-1, -1, 1, 0, 0, 0, -1, -1, 0, -1};
        for (int release = 0; release < due.length; release++) {
            DUE.is(due[release], x.about(release, 1));
        }
        // Held at its last stage, and barred there.
        RollStages y = Setting.withWaits(0, 0, 0, 0, 0);
        for (int stage = 0; stage < 4; stage++) {
            y.report(0, 1, 0);
            y.tick(1);
        }
        y.hold(0, true);
        DUE.is(4, y.about(0, 1));
        y.revoke(0);
        DUE.is(-1, y.about(0, 1));
    }

    private static void whys() {
        DUE.by("2 why it is HELD (0 if it isn't)");
        RollStages x = Town.mixed();
        int[] due = {0, 0, 0, 1, 2, 3, 0, 0, 0, 0};
        for (int release = 0; release < due.length; release++) {
            DUE.is(due[release], x.about(release, 2));
        }
        for (int held : new int[] {Town.UNHEARD, Town.UNWELL, Town.STOPPED}) {
            x.hold(held, false);
            DUE.is(0, x.about(held, 2));
            x.hold(held, true);
            DUE.is(3, x.about(held, 2));
            x.revoke(held);
            DUE.is(0, x.about(held, 2));
        }
    }

    private static void shares() {
        DUE.by("3 its SHARE now");
        RollStages x = Town.mixed();
        int[] due = {0, 0, 500, 600, 600, 300, 1000, 0, 600, 1000};
        for (int release = 0; release < due.length; release++) {
            DUE.is(due[release], x.about(release, 3));
        }
    }

    private static void leastShare() {
        DUE.by("NEW, REVOKED: 0; FULL: 1000; else its STAGE's.");
        RollStages least = new RollStages();
        Setting.rolling(least, 0, false, 0);
        DUE.is(0, least.about(0, 3));
        least.report(0, 1, 0);
        least.tick(1);
        DUE.is(1000, least.about(0, 3));
    }

    private static void reports() {
        DUE.by("4 all reports since its WAIT began");
        RollStages x = Town.mixed();
        DUE.is(0, x.about(Town.FRESH, 4));
        DUE.is(0, x.about(Town.STAGED, 4));
        DUE.is(3, x.about(Town.ROLLING, 4));
        DUE.is(0, x.about(Town.UNHEARD, 4));
        DUE.is(2, x.about(Town.UNWELL, 4));
        DUE.is(1, x.about(Town.STOPPED, 4));
        DUE.is(0, x.about(Town.URGENT, 4));
        x.report(Town.ROLLING, 10000, 10000);
        DUE.is(20003, x.about(Town.ROLLING, 4));
        x.tick(1);
        DUE.is(2, x.about(Town.ROLLING, 1));
        DUE.is(0, x.about(Town.ROLLING, 4));
    }

    /** Neither a full nor a revoked one has begun another wait, so the last one's reports are told. */
    private static void reportsOfTheLastWait() {
        DUE.by("all reports since its WAIT began");
        RollStages x = Setting.withWaits(1);
        x.report(0, 5, 2);
        x.tick(1);
        DUE.text("3 -1 0 1000 7", Setting.about(x, 0));
        x.revoke(0);
        DUE.text("4 -1 0 0 7", Setting.about(x, 0));
    }

    private static void noneSuch() {
        DUE.by("NONE if there is none such, or for another what");
        RollStages x = Town.mixed();
        for (int wrong : Setting.notBelow(Town.RELEASES)) {
            for (int what = -1; what <= 5; what++) {
                DUE.is(-1, x.about(wrong, what));
            }
        }
        RollStages y = new RollStages();
        for (int number = 0; number < 16; number++) {
            DUE.is(-1, y.about(number, 3));
            Setting.fresh(y, 0);
            DUE.is(0, y.about(number, 3));
        }
        DUE.is(-1, y.about(16, 3));
    }

    private static void anotherWhat() {
        DUE.by("or for another what");
        RollStages x = Town.mixed();
        for (int release = 0; release < Town.RELEASES; release++) {
            for (int wrong : new int[] {-1, -2, 5, 6, 1 << 8, 1 << 16, Setting.LOWEST, Setting.HIGHEST}) {
                DUE.is(-1, x.about(release, wrong));
            }
        }
    }

    private static void asksChangeNothing() {
        DUE.by("Of a RELEASE: 0 STATE");
        Refused mixed = new Refused(DUE, Town::mixed);
        mixed.none(x -> x.about(Town.RELEASES, 0));
        mixed.none(x -> x.about(-1, 0));
        mixed.none(x -> x.about(Town.ROLLING, 5));
        mixed.none(x -> x.about(Town.ROLLING, -1));
        RollStages asked = Town.mixed();
        for (int release = 0; release < Town.RELEASES; release++) {
            DUE.text(Town.ABOUT[release], Setting.about(asked, release));
        }
        DUE.text(Town.later(Town.mixed()), Town.later(asked));
    }
}
