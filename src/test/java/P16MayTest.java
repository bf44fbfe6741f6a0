/** Promise 16: may. */
public final class P16MayTest {
    private static final Due DUE = new Due("Promise 16, may");

    public static void main(String[] args) {
        ofItsChannel();
        notAboveTheBound();
        forSecurity();
        heldByARule();
        securityHeldByARule();
        belowTheShare();
        shareOfNothingAndOfAll();
        asHighAsItsRing();
        unlessFull();
        bothShareAndRing();
        whateverThePin();
        noSuchMachine();
        noSuchRelease();
        DUE.end();
    }

    private static void ofItsChannel() {
        DUE.by("A MACHINE may get a RELEASE of its CHANNEL");
        RollStages x = new RollStages();
        for (int channel = 0; channel < 3; channel++) {
            x.machine(channel, 0);
            Setting.full(x, channel);
            x.hold(Setting.rolling(x, channel, true, 0), true);
        }
        for (int machine = 0; machine < 3; machine++) {
            for (int release = 0; release < 6; release++) {
                DUE.is(release / 2 == machine ? 1 : 0, x.may(machine, release) ? 1 : 0);
            }
        }
    }

    private static void notAboveTheBound() {
        DUE.by("that isn't above the BOUND (if there is one)");
        RollStages x = new RollStages();
        x.machine(0, 0);
        Setting.full(x, 0);
        x.hold(Setting.rolling(x, 0, true, 0), true);
        Setting.full(x, 0);
        x.hold(Setting.rolling(x, 0, true, 0), true);
        Setting.full(x, 0);
        for (int bound = 0; bound < 5; bound++) {
            x.back(0, bound);
            for (int release = 0; release < 5; release++) {
                DUE.is(release <= bound ? 1 : 0, x.may(0, release) ? 1 : 0);
            }
        }
        x.back(0, -1);
        DUE.yes(x.may(0, 4));
    }

    /** A share of 0 and the highest ring, so that nothing but security opens it. */
    private static RollStages withSecurity(boolean security) {
        RollStages x = new RollStages();
        x.machine(0, 3);
        x.release(0, security, 1000);
        x.stage(0, 0, 1);
        x.health(0, 0, 1);
        return x;
    }

    private static void forSecurity() {
        DUE.by("if the RELEASE is for SECURITY and ROLLING, HELD by hand or FULL");
        for (int security = 0; security <= 1; security++) {
            RollStages x = withSecurity(security == 1);
            DUE.no(x.may(0, 0));
            x.start(0);
            DUE.is(security, x.may(0, 0) ? 1 : 0);
            x.hold(0, true);
            DUE.is(security, x.may(0, 0) ? 1 : 0);
            x.hold(0, false);
            DUE.is(security, x.may(0, 0) ? 1 : 0);
            x.report(0, 1, 0);
            x.tick(1);
            DUE.is(Setting.FULL, x.about(0, Setting.STATE));
            DUE.yes(x.may(0, 0));
            x.revoke(0);
            DUE.no(x.may(0, 0));
        }
    }

    private static void heldByARule() {
        DUE.by("HELD by hand");
        RollStages x = withSecurity(true);
        x.start(0);
        x.tick(1);
        DUE.is(1, x.about(0, Setting.WHY));
        DUE.no(x.may(0, 0));
        x.hold(0, false);
        x.report(0, 0, 1);
        x.tick(1);
        DUE.is(2, x.about(0, Setting.WHY));
        DUE.no(x.may(0, 0));
        // Revoked while held by hand: no more held.
        x.hold(0, false);
        x.hold(0, true);
        DUE.yes(x.may(0, 0));
        x.revoke(0);
        DUE.no(x.may(0, 0));
    }

    private static void securityHeldByARule() {
        DUE.by("or if its ROW is below the RELEASE's SHARE");
        RollStages x = new RollStages();
        x.machine(0, 0);
        x.machine(0, 1);
        Setting.rolling(x, 0, true, 780);
        Setting.rolling(x, 0, true, 779);
        x.tick(1);
        DUE.is(1, x.about(0, Setting.WHY));
        DUE.yes(x.may(0, 0));
        DUE.no(x.may(0, 1));
        DUE.no(x.may(1, 0));
    }

    private static void belowTheShare() {
        DUE.by("if its ROW is below the RELEASE's SHARE");
        RollStages x = new RollStages();
        int made = 0;
        for (int machine = 0; machine < 30; machine++) {
            x.machine(0, 0);
        }
        for (int machine : new int[] {24, 18, 1, 4, 0, 2, 10}) {
            int row = Setting.ROWS[machine];
            int at = Setting.rolling(x, 0, false, row);
            int above = Setting.rolling(x, 0, false, row + 1);
            DUE.no(x.may(machine, at));
            DUE.yes(x.may(machine, above));
            made += 2;
        }
        for (int machine = 0; machine < 30; machine++) {
            for (int release = 0; release < made; release += 4) {
                int share = x.about(release, Setting.SHARE);
                DUE.is(Setting.ROWS[machine] < share ? 1 : 0, x.may(machine, release) ? 1 : 0);
            }
        }
    }

    private static void shareOfNothingAndOfAll() {
        DUE.by("NEW, REVOKED: 0; FULL: 1000; else its STAGE's.");
        RollStages x = new RollStages();
        int nothing = Setting.rolling(x, 0, false, 0);
        int all = Setting.rolling(x, 0, false, 1000);
        int fresh = Setting.fresh(x, 0);
        x.stage(fresh, 1000, 1);
        int barred = Setting.rolling(x, 0, false, 1000);
        x.revoke(barred);
        for (int machine = 0; machine < 30; machine++) {
            x.machine(0, 0);
            DUE.no(x.may(machine, nothing));
            DUE.yes(x.may(machine, all));
            DUE.no(x.may(machine, fresh));
            DUE.no(x.may(machine, barred));
        }
        x.report(nothing, 1, 0);
        x.tick(1);
        for (int machine = 0; machine < 30; machine++) {
            DUE.yes(x.may(machine, nothing));
        }
    }

    private static void asHighAsItsRing() {
        DUE.by("came to STAGES as high as its RING at least (STAGE k or more for RING k)");
        RollStages x = new RollStages();
        for (int ring = 0; ring < 4; ring++) {
            x.machine(0, ring);
        }
        Setting.fresh(x, 0);
        for (int stage = 0; stage < 5; stage++) {
            x.stage(0, 1000, 1);
        }
        x.start(0);
        for (int stage = 0; stage < 5; stage++) {
            ringsUpTo(x, stage);
            x.hold(0, true);
            ringsUpTo(x, stage);
            x.hold(0, false);
            ringsUpTo(x, stage);
            x.report(0, 1, 0);
            x.tick(1);
        }
        ringsUpTo(x, 3);
    }

    private static void ringsUpTo(RollStages x, int stage) {
        for (int ring = 0; ring < 4; ring++) {
            DUE.is(ring <= stage ? 1 : 0, x.may(ring, 0) ? 1 : 0);
        }
    }

    private static void unlessFull() {
        DUE.by("(unless FULL)");
        RollStages x = new RollStages();
        x.machine(0, 1);
        x.machine(0, 3);
        Setting.rolling(x, 0, false, 1000);
        DUE.no(x.may(0, 0));
        DUE.no(x.may(1, 0));
        x.report(0, 1, 0);
        x.tick(1);
        DUE.yes(x.may(0, 0));
        DUE.yes(x.may(1, 0));
    }

    private static void bothShareAndRing() {
        DUE.by("if its ROW is below the RELEASE's SHARE, and (unless FULL)");
        RollStages x = new RollStages();
        x.machine(0, 1);
        x.machine(0, 0);
        x.machine(0, 0);
        Setting.rolling(x, 0, false, 800);
        // Row 779 of ring 1; row 126 of ring 0; row 906 of ring 0.
        DUE.no(x.may(0, 0));
        DUE.yes(x.may(1, 0));
        DUE.no(x.may(2, 0));
        // Held for want of reports, it is at its stage still.
        x.tick(1);
        DUE.no(x.may(0, 0));
        DUE.yes(x.may(1, 0));
        DUE.no(x.may(2, 0));
    }

    private static void whateverThePin() {
        DUE.by("Whether a MACHINE may get a RELEASE");
        RollStages x = new RollStages();
        x.machine(0, 0);
        Setting.full(x, 0);
        int fresh = Setting.fresh(x, 0);
        Setting.give(x, 0, fresh);
        x.pin(0, fresh);
        DUE.no(x.may(0, fresh));
        DUE.yes(x.may(0, 0));
    }

    private static void noSuchMachine() {
        DUE.by("Whether a MACHINE may get a RELEASE; false if there are none such");
        Refused mixed = new Refused(DUE, Town::mixed);
        for (int wrong : Setting.notBelow(Town.MACHINES)) {
            mixed.no(x -> x.may(wrong, Town.FULL));
            mixed.no(x -> x.may(wrong, Town.RELEASES));
        }
        RollStages x = new RollStages();
        Setting.full(x, 0);
        for (int number = 0; number < 30; number++) {
            DUE.no(x.may(number, 0));
            x.machine(0, 0);
            DUE.yes(x.may(number, 0));
        }
        DUE.no(x.may(30, 0));
    }

    private static void noSuchRelease() {
        DUE.by("false if there are none such");
        Refused mixed = new Refused(DUE, Town::mixed);
        for (int wrong : Setting.notBelow(Town.RELEASES)) {
            mixed.no(x -> x.may(0, wrong));
            mixed.no(x -> x.may(4, wrong));
        }
        RollStages x = new RollStages();
        x.machine(0, 0);
        for (int number = 0; number < 16; number++) {
            DUE.no(x.may(0, number));
            Setting.full(x, 0);
            DUE.yes(x.may(0, number));
        }
        DUE.no(x.may(0, 16));
    }
}
