/** Promise 20: update. */
public final class P20UpdateTest {
    private static final Due DUE = new Due("Promise 20, update");

    public static void main(String[] args) {
        hasWhatItIsOffered();
        fromNowOn();
        byItsPin();
        down();
        nothingIsOffered();
        noneSuch();
        eachMachineAlone();
        DUE.end();
    }

    private static void hasWhatItIsOffered() {
        DUE.by("A MACHINE HAS what it is OFFERED from now on: that");
        RollStages x = new RollStages();
        x.machine(0, 0);
        for (int release = 0; release < 16; release++) {
            Setting.full(x, 0);
            DUE.is(release, x.update(0));
            DUE.is(release, x.has(0));
        }
        DUE.is(15, x.update(0));
    }

    private static void fromNowOn() {
        DUE.by("from now on");
        RollStages x = new RollStages();
        x.machine(0, 0);
        Setting.full(x, 0);
        x.update(0);
        Setting.full(x, 0);
        DUE.is(0, x.has(0));
        x.back(0, 0);
        DUE.is(0, x.has(0));
        x.revoke(0);
        DUE.is(0, x.has(0));
        x.tick(2000);
        DUE.is(0, x.has(0));
    }

    private static void byItsPin() {
        DUE.by("any RELEASE, of any CHANNEL and state but REVOKED");
        RollStages x = Town.mixed();
        for (int release = 0; release < Town.RELEASES; release++) {
            if (release != Town.BARRED) {
                x.pin(4, release);
                DUE.is(release, x.update(4));
                DUE.is(release, x.has(4));
            }
        }
        x.pin(4, Town.BARRED);
        // Channel 2 has no releases, so nothing stands behind the revoked pin.
        DUE.is(-1, x.update(4));
        DUE.is(Town.OTHER, x.has(4));
    }

    private static void down() {
        DUE.by("A MACHINE HAS what it is OFFERED");
        RollStages x = new RollStages();
        x.machine(0, 0);
        Setting.full(x, 0);
        Setting.full(x, 0);
        DUE.is(1, x.update(0));
        x.back(0, 0);
        DUE.is(0, x.update(0));
        DUE.is(0, x.has(0));
        x.back(0, -1);
        DUE.is(1, x.update(0));
    }

    private static void nothingIsOffered() {
        DUE.by("or nothing is OFFERED (what it HAS stays)");
        RollStages x = new RollStages();
        x.machine(0, 0);
        DUE.is(-1, x.update(0));
        DUE.is(-1, x.has(0));
        Setting.full(x, 0);
        x.update(0);
        x.revoke(0);
        DUE.is(-1, x.update(0));
        DUE.is(0, x.has(0));
        DUE.is(-1, x.update(0));
        Setting.full(x, 0);
        DUE.is(1, x.update(0));
        DUE.is(1, x.has(0));
        new Refused(DUE, Town::mixed).none(y -> y.update(4));
    }

    private static void noneSuch() {
        DUE.by("NONE if there is none such, or nothing is OFFERED");
        Refused mixed = new Refused(DUE, Town::mixed);
        for (int wrong : Setting.notBelow(Town.MACHINES)) {
            mixed.none(x -> x.update(wrong));
        }
        RollStages x = new RollStages();
        Setting.full(x, 0);
        for (int number = 0; number < 30; number++) {
            DUE.is(-1, x.update(number));
            x.machine(0, 0);
            DUE.is(0, x.update(number));
        }
        DUE.is(-1, x.update(30));
    }

    private static void eachMachineAlone() {
        DUE.by("A MACHINE HAS what it is OFFERED from now on");
        RollStages x = new RollStages();
        x.machine(0, 0);
        x.machine(0, 0);
        Setting.full(x, 0);
        x.update(1);
        DUE.is(-1, x.has(0));
        DUE.is(0, x.has(1));
    }
}
