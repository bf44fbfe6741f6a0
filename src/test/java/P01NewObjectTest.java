/** Promise 1: a new object. */
public final class P01NewObjectTest {
    private static final Due DUE = new Due("Promise 1, a new object");

    public static void main(String[] args) {
        noReleases();
        noMachines();
        clockAtZero();
        noBounds();
        none();
        objectsAlone();
        lastOfTheCalls();
        DUE.end();
    }

    private static void noReleases() {
        DUE.by("No RELEASES");
        RollStages x = new RollStages();
        for (int number = -1; number <= 16; number++) {
            for (int what = Setting.STATE; what <= Setting.REPORTS; what++) {
                DUE.is(-1, x.about(number, what));
            }
            DUE.no(x.stage(number, 0, 0));
            DUE.no(x.health(number, 1, 1));
            DUE.no(x.start(number));
            DUE.no(x.report(number, 0, 0));
            DUE.no(x.hold(number, true));
            DUE.no(x.hold(number, false));
            DUE.no(x.revoke(number));
            DUE.no(x.delta(number, number + 1, 1));
        }
        DUE.no(x.back(0, 0));
        DUE.is(0, x.machine(0, 0));
        DUE.no(x.pin(0, 0));
        DUE.no(x.may(0, 0));
        DUE.is(-1, x.offered(0));
        DUE.is(-1, x.update(0));
        DUE.is(0, x.release(0, false, 1));
    }

    private static void noMachines() {
        DUE.by("no MACHINES");
        RollStages x = new RollStages();
        x.release(0, false, 1);
        for (int number = -1; number <= 30; number++) {
            DUE.is(-1, x.row(number));
            DUE.no(x.pin(number, 0));
            DUE.no(x.pin(number, -1));
            DUE.is(-1, x.offered(number));
            DUE.no(x.may(number, 0));
            DUE.is(-1, x.cost(number));
            DUE.is(-1, x.steps(number));
            DUE.is(-1, x.update(number));
            DUE.is(-1, x.has(number));
        }
        DUE.is(0, x.machine(0, 0));
    }

    private static void clockAtZero() {
        DUE.by("CLOCK 0");
        RollStages x = new RollStages();
        DUE.is(0, x.tick(0));
        DUE.is(1, x.tick(1));
        DUE.is(2000, new RollStages().tick(2000));
    }

    private static void noBounds() {
        DUE.by("that isn't above the BOUND (if there is one)");
        RollStages x = new RollStages();
        for (int channel = 0; channel < 3; channel++) {
            x.machine(channel, 0);
            Setting.full(x, channel);
        }
        for (int channel = 0; channel < 3; channel++) {
            int newest = Setting.full(x, channel);
            DUE.is(newest, x.offered(channel));
        }
    }

    private static void none() {
        DUE.by("`NONE = -1`");
        DUE.is(-1, RollStages.NONE);
    }

    private static void objectsAlone() {
        DUE.by("No RELEASES, no MACHINES; CLOCK 0.");
        RollStages x = Setting.withWaits(9);
        x.machine(0, 0);
        x.tick(7);
        RollStages y = new RollStages();
        DUE.is(-1, y.about(0, Setting.STATE));
        DUE.is(-1, y.row(0));
        DUE.is(0, y.tick(0));
        DUE.is(0, y.release(1, false, 1));
        DUE.is(0, y.machine(1, 0));
        y.revoke(0);
        DUE.is(Setting.ROLLING, x.about(0, Setting.STATE));
        DUE.is(7, x.tick(0));
    }

    private static void lastOfTheCalls() {
        DUE.by("An object is used for at most 512 calls after it has been made");
        RollStages x = new RollStages();
        for (int call = 1; call <= 512; call++) {
            DUE.is(2000 * call, x.tick(2000));
        }
        RollStages y = Setting.withWaits(1000);
        for (int call = 4; call <= 511; call++) {
            DUE.yes(y.report(0, 10000, 10000));
        }
        DUE.is(508 * 20000, y.about(0, Setting.REPORTS));
    }
}
