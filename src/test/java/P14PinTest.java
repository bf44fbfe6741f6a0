/** Promise 14: pin. */
public final class P14PinTest {
    private static final Due DUE = new Due("Promise 14, pin");

    public static void main(String[] args) {
        hasAPin();
        noneAnyMore();
        noSuchMachine();
        noSuchRelease();
        anyRelease();
        aRevokedOne();
        DUE.end();
    }

    private static void hasAPin() {
        DUE.by("A MACHINE has a PIN");
        RollStages x = new RollStages();
        x.machine(0, 3);
        x.machine(0, 3);
        Setting.fresh(x, 0);
        Setting.fresh(x, 0);
        DUE.is(-1, x.offered(0));
        DUE.yes(x.pin(0, 1));
        DUE.is(1, x.offered(0));
        DUE.yes(x.pin(0, 0));
        DUE.is(0, x.offered(0));
        DUE.yes(x.pin(0, 0));
        DUE.is(0, x.offered(0));
        // It is one machine's alone, and it gives none.
        DUE.is(-1, x.offered(1));
        DUE.is(-1, x.has(0));
        DUE.no(x.may(0, 0));
    }

    private static void noneAnyMore() {
        DUE.by("(NONE: none any more)");
        RollStages x = new RollStages();
        x.machine(0, 0);
        DUE.yes(x.pin(0, -1));
        Setting.full(x, 0);
        Setting.fresh(x, 0);
        x.pin(0, 1);
        DUE.is(1, x.offered(0));
        DUE.yes(x.pin(0, -1));
        DUE.is(0, x.offered(0));
        DUE.yes(x.pin(0, -1));
        DUE.is(0, x.offered(0));
    }

    private static void noSuchMachine() {
        DUE.by("false if there are none such");
        Refused mixed = new Refused(DUE, Town::mixed);
        for (int wrong : Setting.notBelow(Town.MACHINES)) {
            mixed.no(x -> x.pin(wrong, Town.FRESH));
            mixed.no(x -> x.pin(wrong, Setting.NONE));
        }
        RollStages x = new RollStages();
        Setting.fresh(x, 0);
        for (int number = 0; number < 30; number++) {
            DUE.no(x.pin(number, 0));
            x.machine(0, 0);
            DUE.yes(x.pin(number, 0));
            DUE.is(0, x.offered(number));
        }
        DUE.no(x.pin(30, 0));
        DUE.no(x.pin(30, -1));
    }

    private static void noSuchRelease() {
        DUE.by("false if there are none such");
        Refused mixed = new Refused(DUE, Town::mixed);
        for (int wrong : Setting.notBelow(Town.RELEASES)) {
            if (wrong != Setting.NONE) {
                mixed.no(x -> x.pin(0, wrong));
                mixed.no(x -> x.pin(2, wrong));
            }
        }
        RollStages x = new RollStages();
        x.machine(0, 0);
        for (int number = 0; number < 16; number++) {
            DUE.no(x.pin(0, number));
            // The pin before stays.
            DUE.is(number - 1, x.offered(0));
            Setting.fresh(x, 0);
            DUE.yes(x.pin(0, number));
            DUE.is(number, x.offered(0));
        }
        DUE.no(x.pin(0, 16));
        DUE.is(15, x.offered(0));
    }

    private static void anyRelease() {
        DUE.by("any RELEASE, of any CHANNEL and state but REVOKED");
        RollStages x = Town.mixed();
        for (int machine = 0; machine < Town.MACHINES; machine++) {
            for (int release = 0; release < Town.RELEASES; release++) {
                DUE.yes(x.pin(machine, release));
                if (release != Town.BARRED) {
                    DUE.is(release, x.offered(machine));
                }
            }
        }
    }

    private static void aRevokedOne() {
        DUE.by("its PIN, if that isn't REVOKED");
        RollStages x = new RollStages();
        x.machine(0, 0);
        Setting.full(x, 0);
        Setting.full(x, 0);
        x.revoke(0);
        DUE.yes(x.pin(0, 0));
        DUE.is(1, x.offered(0));
        DUE.yes(x.pin(0, 1));
        x.revoke(1);
        DUE.is(-1, x.offered(0));
    }
}
