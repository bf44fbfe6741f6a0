/** Promise 4: health. */
public final class P04HealthTest {
    private static final Due DUE = new Due("Promise 4, health");

    public static void main(String[] args) {
        oneOfOneAtFirst();
        noneSuch();
        q();
        p();
        refusedLeavesTheRule();
        inEveryState();
        theLastOneCounts();
        ofOneReleaseAlone();
        DUE.end();
    }

    /** What becomes of a release by the rule it has now: why it is held, 0 if it isn't. */
    private static int whyAfter(RollStages x, int good, int bad) {
        x.stage(0, 10, 1);
        x.stage(0, 10, 1);
        x.start(0);
        x.report(0, good, bad);
        x.tick(1);
        return x.about(0, Setting.WHY);
    }

    private static RollStages withFresh() {
        RollStages x = new RollStages();
        Setting.fresh(x, 0);
        return x;
    }

    private static void oneOfOneAtFirst() {
        DUE.by("1 of 1 at first");
        DUE.is(0, whyAfter(withFresh(), 0, 1));
        DUE.is(0, whyAfter(withFresh(), 0, 10000));
        DUE.is(0, whyAfter(withFresh(), 1, 0));
    }

    private static void noneSuch() {
        DUE.by("HEALTH of a RELEASE; false if there is none such");
        Refused mixed = new Refused(DUE, Town::mixed);
        for (int wrong : Setting.notBelow(Town.RELEASES)) {
            mixed.no(x -> x.health(wrong, 0, 1));
        }
        RollStages x = new RollStages();
        for (int number = 0; number < 16; number++) {
            DUE.no(x.health(number, 0, 1));
            Setting.fresh(x, 0);
            DUE.yes(x.health(number, 0, 1));
        }
        DUE.no(x.health(16, 0, 1));
    }

    private static void q() {
        DUE.by("q 1 .. 1000");
        RollStages x = withFresh();
        for (int wrong : new int[] {0, -1, Setting.LOWEST, 1001, 1002, Setting.HIGHEST, 1 << 16}) {
            DUE.no(x.health(0, 0, wrong));
            DUE.no(x.health(0, 1, wrong));
        }
        for (int right : new int[] {1, 2, 999, 1000}) {
            DUE.yes(x.health(0, 0, right));
            DUE.yes(x.health(0, 1, right));
        }
        DUE.yes(x.health(0, 1, 1000));
        DUE.is(0, whyAfter(x, 999, 1));
        RollStages y = withFresh();
        DUE.yes(y.health(0, 1, 1000));
        DUE.is(2, whyAfter(y, 998, 1));
    }

    private static void p() {
        DUE.by("p 0 .. q");
        RollStages x = withFresh();
        for (int q : new int[] {1, 2, 500, 999, 1000}) {
            DUE.no(x.health(0, -1, q));
            DUE.no(x.health(0, Setting.LOWEST, q));
            DUE.yes(x.health(0, 0, q));
            DUE.yes(x.health(0, 1, q));
            DUE.yes(x.health(0, q, q));
            DUE.no(x.health(0, q + 1, q));
            DUE.no(x.health(0, Setting.HIGHEST, q));
        }
        DUE.no(x.health(0, 0, 0));
        DUE.no(x.health(0, -1, -1));
        DUE.no(x.health(0, 1001, 1001));
        RollStages strict = withFresh();
        strict.health(0, 0, 1000);
        DUE.is(2, whyAfter(strict, 10000, 1));
        RollStages mild = withFresh();
        mild.health(0, 1000, 1000);
        DUE.is(0, whyAfter(mild, 0, 10000));
    }

    private static void refusedLeavesTheRule() {
        DUE.by("or p, q aren't as told");
        Refused mixed = new Refused(DUE, Town::mixed);
        for (int release : new int[] {Town.STAGED, Town.ROLLING, Town.UNWELL}) {
            mixed.no(x -> x.health(release, 0, 0));
            mixed.no(x -> x.health(release, 0, 1001));
            mixed.no(x -> x.health(release, -1, 1));
            mixed.no(x -> x.health(release, 2, 1));
        }
        RollStages x = withFresh();
        x.health(0, 1, 2);
        DUE.no(x.health(0, 0, 1001));
        DUE.no(x.health(0, 3, 2));
        DUE.no(x.health(0, -1, 5));
        DUE.is(0, whyAfter(x, 1, 1));
        RollStages y = withFresh();
        y.health(0, 1, 2);
        DUE.no(y.health(0, 1001, 1001));
        DUE.is(2, whyAfter(y, 1, 2));
    }

    private static void inEveryState() {
        DUE.by("HEALTH of a RELEASE; false if there is none such, or p, q aren't as told.");
        RollStages x = Town.mixed();
        for (int release = 0; release < Town.RELEASES; release++) {
            DUE.yes(x.health(release, 0, 1));
            DUE.text(Town.ABOUT[release], Setting.about(x, release));
        }
    }

    private static void theLastOneCounts() {
        DUE.by("at most p of q reports bad");
        RollStages x = Setting.withWaits(1);
        x.report(0, 1, 1);
        DUE.yes(x.health(0, 1, 2));
        DUE.yes(x.health(0, 1, 3));
        x.tick(1);
        DUE.is(2, x.about(0, Setting.WHY));
        // A milder rule alone lets none that is held go on.
        DUE.yes(x.health(0, 1, 2));
        x.tick(1);
        DUE.is(2, x.about(0, Setting.WHY));
        x.hold(0, false);
        x.report(0, 1, 1);
        x.tick(1);
        DUE.is(Setting.FULL, x.about(0, Setting.STATE));
    }

    private static void ofOneReleaseAlone() {
        DUE.by("and a HEALTH rule");
        RollStages x = withFresh();
        Setting.fresh(x, 0);
        x.health(1, 0, 1);
        DUE.is(0, whyAfter(x, 0, 5));
    }
}
