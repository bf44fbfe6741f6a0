/** Promise 6: report. */
public final class P06ReportTest {
    private static final Due DUE = new Due("Promise 6, report");

    public static void main(String[] args) {
        more();
        good();
        bad();
        nothingIsTaken();
        noneSuch();
        theyArentSo();
        itIsntRolling();
        DUE.end();
    }

    private static void more() {
        DUE.by("Reports of a RELEASE more");
        RollStages x = Setting.withWaits(1, 1);
        DUE.yes(x.report(0, 3, 4));
        DUE.is(7, x.about(0, Setting.REPORTS));
        DUE.yes(x.report(0, 10000, 10000));
        DUE.is(20007, x.about(0, Setting.REPORTS));
        DUE.yes(x.report(0, 0, 1));
        DUE.is(20008, x.about(0, Setting.REPORTS));
        Setting.rolling(x, 0, false, 10);
        x.report(1, 1, 0);
        DUE.is(1, x.about(1, Setting.REPORTS));
        DUE.is(20008, x.about(0, Setting.REPORTS));
    }

    private static void good() {
        DUE.by("(0 .. 10000 each)");
        RollStages x = Setting.withWaits(1);
        x.health(0, 0, 1);
        for (int wrong : new int[] {-1, -2, Setting.LOWEST, 10001, 10002, Setting.HIGHEST, 1 << 16}) {
            DUE.no(x.report(0, wrong, 0));
            DUE.no(x.report(0, wrong, 1));
        }
        DUE.is(0, x.about(0, Setting.REPORTS));
        int all = 0;
        for (int right : new int[] {0, 1, 9999, 10000}) {
            DUE.yes(x.report(0, right, 0));
            all += right;
            DUE.is(all, x.about(0, Setting.REPORTS));
        }
        x.tick(1);
        DUE.is(Setting.FULL, x.about(0, Setting.STATE));
    }

    private static void bad() {
        DUE.by("(0 .. 10000 each)");
        RollStages x = Setting.withWaits(1);
        x.health(0, 999, 1000);
        for (int wrong : new int[] {-1, -2, Setting.LOWEST, 10001, 10002, Setting.HIGHEST, 1 << 16}) {
            DUE.no(x.report(0, 0, wrong));
            DUE.no(x.report(0, 1, wrong));
        }
        DUE.is(0, x.about(0, Setting.REPORTS));
        int all = 0;
        for (int right : new int[] {0, 1, 9999, 10000}) {
            DUE.yes(x.report(0, 0, right));
            all += right;
            DUE.is(all, x.about(0, Setting.REPORTS));
        }
        x.tick(1);
        DUE.is(2, x.about(0, Setting.WHY));
    }

    private static void nothingIsTaken() {
        DUE.by("without reports since then it is HELD for want of them");
        RollStages x = Setting.withWaits(1);
        DUE.yes(x.report(0, 0, 0));
        DUE.is(0, x.about(0, Setting.REPORTS));
        x.tick(1);
        DUE.is(1, x.about(0, Setting.WHY));
    }

    private static void noneSuch() {
        DUE.by("false if there is none such, they aren't so");
        Refused mixed = new Refused(DUE, Town::mixed);
        for (int wrong : Setting.notBelow(Town.RELEASES)) {
            mixed.no(x -> x.report(wrong, 1, 1));
            mixed.no(x -> x.report(wrong, 0, 0));
        }
        RollStages x = new RollStages();
        for (int number = 0; number < 16; number++) {
            DUE.no(x.report(number, 1, 0));
            Setting.rolling(x, 0, false, 10);
            DUE.yes(x.report(number, 1, 0));
        }
        DUE.no(x.report(16, 1, 0));
    }

    private static void theyArentSo() {
        DUE.by("they aren't so, or it isn't ROLLING");
        Refused mixed = new Refused(DUE, Town::mixed);
        mixed.no(x -> x.report(Town.ROLLING, -1, 1));
        mixed.no(x -> x.report(Town.ROLLING, 1, -1));
        mixed.no(x -> x.report(Town.ROLLING, 10001, 1));
        mixed.no(x -> x.report(Town.ROLLING, 1, 10001));
        mixed.no(x -> x.report(Town.ROLLING, -1, 10001));
        mixed.no(x -> x.report(Town.URGENT, 10001, -1));
    }

    private static void itIsntRolling() {
        DUE.by("or it isn't ROLLING");
        Refused mixed = new Refused(DUE, Town::mixed);
        for (int release = 0; release < Town.RELEASES; release++) {
            int one = release;
            if (one != Town.ROLLING && one != Town.URGENT) {
                mixed.no(x -> x.report(one, 1, 1));
                mixed.no(x -> x.report(one, 0, 0));
            }
        }
        RollStages x = Setting.withWaits(5);
        x.report(0, 2, 0);
        x.hold(0, true);
        DUE.no(x.report(0, 1, 1));
        DUE.is(2, x.about(0, Setting.REPORTS));
        x.hold(0, false);
        DUE.yes(x.report(0, 1, 1));
        x.revoke(0);
        DUE.no(x.report(0, 1, 1));
    }
}
