/** Promises 11 to 16, 20 and 21: machines and what they are offered. */
public final class MachineTest {
    private static final Due DUE = new Due("MachineTest");

    /** By number: what the document's formula makes of it. */
    private static final int[] ROWS = {
        779, 126, 906, 253, 600, 380, 727, 507, 854, 201, 981, 328, 675, 455, 802,
        582, 929, 276, 56, 403, 183, 530, 877, 657, 4, 351, 131, 478, 258, 605};

    public static void main(String[] args) {
        back();
        machine();
        row();
        pin();
        mayByShare();
        mayByRing();
        mayByState();
        mayForSecurity();
        mayWithWrongNumbers();
        offeredByNumber();
        offeredByPin();
        offeredToKeep();
        update();
        has();
        DUE.end();
    }

    private static void back() {
        RollStages x = new RollStages();
        DUE.yes(x.back(0, -1));
        DUE.no(x.back(0, 0));
        for (int i = 0; i < 3; i++) {
            Setting.full(x, 0);
        }
        Setting.full(x, 1);
        x.machine(0, 0);
        x.machine(1, 0);
        DUE.no(x.back(-1, -1));
        DUE.no(x.back(3, -1));
        DUE.no(x.back(Integer.MAX_VALUE, 0));
        DUE.no(x.back(Integer.MIN_VALUE, 0));
        DUE.no(x.back(1, 0));
        DUE.no(x.back(0, 3));
        DUE.no(x.back(0, 4));
        DUE.no(x.back(0, -2));
        DUE.no(x.back(0, 16));
        DUE.is(2, x.offered(0));
        DUE.yes(x.back(0, 1));
        DUE.is(1, x.offered(0));
        DUE.is(3, x.offered(1));
        DUE.no(x.may(0, 2));
        DUE.yes(x.may(0, 1));
        DUE.yes(x.may(0, 0));
        DUE.yes(x.back(0, 0));
        DUE.is(0, x.offered(0));
        DUE.no(x.back(0, 3));
        DUE.is(0, x.offered(0));
        DUE.yes(x.back(0, 2));
        DUE.is(2, x.offered(0));
        DUE.yes(x.back(0, 1));
        DUE.yes(x.back(0, -1));
        DUE.is(2, x.offered(0));
        x.revoke(1);
        DUE.yes(x.back(0, 1));
        DUE.is(0, x.offered(0));
        DUE.yes(x.back(2, Setting.fresh(x, 2)));
    }

    private static void machine() {
        RollStages x = new RollStages();
        DUE.is(-1, x.machine(-1, 0));
        DUE.is(-1, x.machine(3, 0));
        DUE.is(-1, x.machine(0, -1));
        DUE.is(-1, x.machine(0, 4));
        DUE.is(-1, x.machine(Integer.MAX_VALUE, Integer.MIN_VALUE));
        DUE.is(-1, x.has(0));
        for (int i = 0; i < 30; i++) {
            DUE.is(i, x.machine(i % 3, i % 4));
            DUE.is(-1, x.has(i));
            DUE.is(-1, x.offered(i));
        }
        DUE.is(-1, x.machine(0, 0));
        DUE.is(-1, x.row(30));
    }

    private static void row() {
        RollStages x = new RollStages();
        for (int i = 0; i < 30; i++) {
            DUE.is(-1, x.row(i));
            x.machine(2 - i % 3, i % 4);
            DUE.is(ROWS[i], x.row(i));
        }
        for (int wrong : Setting.WRONG_NUMBERS) {
            if (wrong != 16) {
                DUE.is(-1, x.row(wrong));
            }
        }
    }

    private static void pin() {
        RollStages x = new RollStages();
        DUE.no(x.pin(0, -1));
        x.machine(0, 3);
        DUE.yes(x.pin(0, -1));
        DUE.no(x.pin(0, 0));
        int own = Setting.fresh(x, 0);
        int other = Setting.fresh(x, 1);
        DUE.no(x.pin(1, own));
        DUE.no(x.pin(-1, own));
        DUE.no(x.pin(0, 2));
        DUE.no(x.pin(0, -2));
        DUE.no(x.pin(0, 16));
        DUE.no(x.pin(30, own));
        DUE.no(x.pin(Integer.MAX_VALUE, Integer.MIN_VALUE));
        DUE.is(-1, x.offered(0));
        DUE.yes(x.pin(0, own));
        DUE.is(own, x.offered(0));
        DUE.yes(x.pin(0, other));
        DUE.no(x.pin(0, 2));
        DUE.is(other, x.offered(0));
        DUE.yes(x.pin(0, -1));
        DUE.is(-1, x.offered(0));
        x.revoke(own);
        DUE.yes(x.pin(0, own));
        DUE.is(-1, x.offered(0));
    }

    private static void mayByShare() {
        RollStages x = new RollStages();
        for (int i = 0; i < 30; i++) {
            x.machine(0, 0);
        }
        int[] shares = {0, 4, 5, 126, 127, 906, 907, 981, 982, 1000};
        for (int share : shares) {
            int release = Setting.rolling(x, 0, false, share);
            for (int i = 0; i < 30; i++) {
                DUE.is(ROWS[i] < share ? 1 : 0, x.may(i, release) ? 1 : 0);
            }
        }
        int other = Setting.rolling(x, 1, true, 1000);
        DUE.no(x.may(0, other));
    }

    private static void mayByRing() {
        RollStages x = new RollStages();
        for (int ring = 0; ring < 4; ring++) {
            x.machine(0, ring);
        }
        Setting.fresh(x, 0);
        for (int i = 0; i < 5; i++) {
            x.stage(0, 1000, 1);
        }
        x.start(0);
        for (int stage = 0; stage < 5; stage++) {
            mayUpToRing(x, stage);
            x.hold(0, true);
            mayUpToRing(x, stage);
            x.hold(0, false);
            x.report(0, 1, 0);
            x.tick(1);
        }
        RollStages y = new RollStages();
        y.machine(0, 3);
        Setting.rolling(y, 0, false, 1000);
        DUE.no(y.may(0, 0));
        y.report(0, 1, 0);
        y.tick(1);
        DUE.yes(y.may(0, 0));
    }

    private static void mayUpToRing(RollStages x, int stage) {
        for (int ring = 0; ring < 4; ring++) {
            DUE.is(ring <= stage ? 1 : 0, x.may(ring, 0) ? 1 : 0);
        }
    }

    private static void mayByState() {
        RollStages x = new RollStages();
        x.machine(0, 0);
        Setting.fresh(x, 0);
        x.stage(0, 1000, 1);
        DUE.no(x.may(0, 0));
        x.start(0);
        DUE.yes(x.may(0, 0));
        x.tick(1);
        DUE.is(1, x.about(0, Setting.WHY));
        DUE.yes(x.may(0, 0));
        x.revoke(0);
        DUE.no(x.may(0, 0));
        DUE.yes(x.may(0, Setting.full(x, 0)));
    }

    private static void mayForSecurity() {
        RollStages x = new RollStages();
        x.machine(0, 3);
        x.machine(1, 0);
        x.release(0, true, 1000);
        x.stage(0, 0, 1);
        x.health(0, 0, 1);
        DUE.no(x.may(0, 0));
        x.start(0);
        DUE.yes(x.may(0, 0));
        DUE.no(x.may(1, 0));
        x.hold(0, true);
        DUE.yes(x.may(0, 0));
        x.hold(0, false);
        x.tick(1);
        DUE.is(1, x.about(0, Setting.WHY));
        DUE.no(x.may(0, 0));
        x.hold(0, false);
        x.report(0, 0, 1);
        x.tick(1);
        DUE.is(2, x.about(0, Setting.WHY));
        DUE.no(x.may(0, 0));
        x.hold(0, false);
        x.report(0, 1, 0);
        x.tick(1);
        DUE.yes(x.may(0, 0));
        x.revoke(0);
        DUE.no(x.may(0, 0));
        securityHeldByRuleGoesByShare();
        securityIsBoundToo();
    }

    private static void securityHeldByRuleGoesByShare() {
        RollStages x = new RollStages();
        x.machine(0, 0);
        x.machine(0, 1);
        Setting.rolling(x, 0, true, 780);
        x.tick(1);
        DUE.is(1, x.about(0, Setting.WHY));
        DUE.yes(x.may(0, 0));
        DUE.no(x.may(1, 0));
    }

    private static void securityIsBoundToo() {
        RollStages x = new RollStages();
        x.machine(0, 0);
        Setting.fresh(x, 0);
        Setting.rolling(x, 0, true, 0);
        DUE.yes(x.may(0, 1));
        x.back(0, 0);
        DUE.no(x.may(0, 1));
    }

    private static void mayWithWrongNumbers() {
        RollStages x = new RollStages();
        DUE.no(x.may(0, 0));
        Setting.full(x, 0);
        DUE.no(x.may(0, 0));
        x.machine(0, 0);
        DUE.yes(x.may(0, 0));
        DUE.no(x.may(1, 0));
        DUE.no(x.may(0, 1));
        for (int wrong : Setting.WRONG_NUMBERS) {
            DUE.no(x.may(wrong, 0));
            DUE.no(x.may(0, wrong));
            DUE.is(-1, x.offered(wrong));
        }
        x.pin(0, 0);
        Setting.fresh(x, 1);
        x.pin(0, 1);
        DUE.no(x.may(0, 1));
    }

    private static void offeredByNumber() {
        RollStages x = new RollStages();
        x.machine(0, 0);
        DUE.is(-1, x.offered(0));
        DUE.is(-1, x.offered(1));
        Setting.full(x, 0);
        DUE.is(0, x.offered(0));
        Setting.full(x, 0);
        DUE.is(1, x.offered(0));
        Setting.full(x, 1);
        DUE.is(1, x.offered(0));
        Setting.rolling(x, 0, false, 779);
        DUE.is(1, x.offered(0));
        Setting.rolling(x, 0, false, 780);
        DUE.is(4, x.offered(0));
        x.revoke(4);
        DUE.is(1, x.offered(0));
        x.revoke(1);
        DUE.is(0, x.offered(0));
        x.revoke(0);
        DUE.is(-1, x.offered(0));
    }

    private static void offeredByPin() {
        RollStages x = new RollStages();
        x.machine(0, 0);
        Setting.full(x, 0);
        Setting.full(x, 0);
        int other = Setting.fresh(x, 2);
        x.update(0);
        DUE.is(1, x.has(0));
        x.pin(0, 0);
        DUE.is(0, x.offered(0));
        x.pin(0, other);
        DUE.is(other, x.offered(0));
        x.back(0, 0);
        x.pin(0, 1);
        DUE.is(1, x.offered(0));
        x.revoke(1);
        DUE.is(0, x.offered(0));
        x.pin(0, other);
        x.revoke(other);
        DUE.is(0, x.offered(0));
    }

    private static void offeredToKeep() {
        RollStages x = new RollStages();
        Setting.full(x, 0);
        int held = Setting.fresh(x, 0);
        int foreign = Setting.fresh(x, 1);
        int machine = Setting.machineThatHas(x, 0, held);
        DUE.is(held, x.has(machine));
        DUE.no(x.may(machine, held));
        DUE.is(held, x.offered(machine));
        x.back(0, 0);
        DUE.is(0, x.offered(machine));
        x.back(0, held);
        DUE.is(held, x.offered(machine));
        x.revoke(held);
        DUE.is(0, x.offered(machine));
        Setting.give(x, machine, foreign);
        DUE.is(foreign, x.has(machine));
        DUE.is(0, x.offered(machine));
        int newer = Setting.full(x, 0);
        x.back(0, -1);
        Setting.give(x, machine, 0);
        DUE.is(newer, x.offered(machine));
        keptWhereNothingElseIs();
    }

    private static void keptWhereNothingElseIs() {
        RollStages x = new RollStages();
        Setting.fresh(x, 0);
        int machine = Setting.machineThatHas(x, 0, 0);
        DUE.is(0, x.offered(machine));
        DUE.is(0, x.update(machine));
        x.revoke(0);
        DUE.is(-1, x.offered(machine));
        DUE.is(0, x.has(machine));
    }

    private static void update() {
        RollStages x = new RollStages();
        for (int wrong : Setting.WRONG_NUMBERS) {
            DUE.is(-1, x.update(wrong));
        }
        DUE.is(-1, x.update(0));
        x.machine(0, 0);
        x.machine(0, 0);
        DUE.is(-1, x.update(0));
        DUE.is(-1, x.has(0));
        Setting.full(x, 0);
        DUE.is(0, x.update(0));
        DUE.is(0, x.has(0));
        DUE.is(-1, x.has(1));
        DUE.is(0, x.update(0));
        x.revoke(0);
        DUE.is(-1, x.update(0));
        DUE.is(0, x.has(0));
        Setting.full(x, 0);
        DUE.is(1, x.update(0));
        DUE.is(1, x.has(0));
    }

    private static void has() {
        RollStages x = new RollStages();
        for (int wrong : Setting.WRONG_NUMBERS) {
            DUE.is(-1, x.has(wrong));
        }
        x.machine(0, 0);
        DUE.is(-1, x.has(0));
        DUE.is(-1, x.has(1));
        Setting.full(x, 0);
        DUE.is(-1, x.has(0));
        x.update(0);
        DUE.is(0, x.has(0));
        Setting.full(x, 0);
        DUE.is(0, x.has(0));
    }
}
