/** Promises 17 to 19: deltas, and the ways that machines come up by. */
public final class DeltaTest {
    private static final Due DUE = new Due("DeltaTest");

    public static void main(String[] args) {
        delta();
        deltaInPlace();
        fortyDeltas();
        costWithoutDeltas();
        cheapestWay();
        fewestDeltas();
        fourDeltasAtMost();
        cheaperThanTheWhole();
        noRevokedBetween();
        firstReleaseBetween();
        eachAskedAlone();
        directions();
        wrongMachines();
        DUE.end();
    }

    /** So many new releases of 1000 bytes; the one machine has release 0 and a pin on the last one. */
    private static RollStages fromFirstToLast(int releases) {
        RollStages x = new RollStages();
        for (int i = 0; i < releases; i++) {
            Setting.fresh(x, 0);
        }
        Setting.machineThatHas(x, 0, 0);
        x.pin(0, releases - 1);
        return x;
    }

    private static void isWay(RollStages x, int cost, int steps) {
        DUE.text(cost + " by " + steps, x.cost(0) + " by " + x.steps(0));
    }

    private static void delta() {
        RollStages x = fromFirstToLast(2);
        for (int wrong : Setting.WRONG_NUMBERS) {
            DUE.no(x.delta(wrong, 1, 10));
            DUE.no(x.delta(0, wrong, 10));
            DUE.no(x.delta(wrong, wrong, 10));
        }
        DUE.no(x.delta(0, 2, 10));
        DUE.no(x.delta(2, 1, 10));
        DUE.no(x.delta(0, 0, 10));
        DUE.no(x.delta(0, 1, 0));
        DUE.no(x.delta(0, 1, -1));
        DUE.no(x.delta(0, 1, 1001));
        isWay(x, 1000, 0);
        DUE.yes(x.delta(0, 1, 1));
        isWay(x, 1, 1);
        DUE.yes(x.delta(1, 0, 1000));
        isWay(x, 1, 1);
        x.revoke(0);
        DUE.yes(x.delta(0, 1, 5));
    }

    private static void deltaInPlace() {
        RollStages x = fromFirstToLast(2);
        DUE.yes(x.delta(0, 1, 50));
        DUE.yes(x.delta(0, 1, 70));
        isWay(x, 70, 1);
        DUE.no(x.delta(0, 1, 0));
        isWay(x, 70, 1);
        DUE.yes(x.delta(0, 1, 20));
        isWay(x, 20, 1);
        for (int i = 0; i < 60; i++) {
            DUE.yes(x.delta(0, 1, 100 + i));
        }
        isWay(x, 159, 1);
        DUE.yes(x.delta(1, 0, 1));
    }

    private static void fortyDeltas() {
        RollStages x = fromFirstToLast(16);
        int made = 0;
        for (int from = 1; from < 16 && made < 39; from++) {
            for (int to = 1; to < 16 && made < 39; to++) {
                if (from != to) {
                    DUE.yes(x.delta(from, to, 1000));
                    made++;
                }
            }
        }
        DUE.yes(x.delta(0, 15, 30));
        DUE.no(x.delta(0, 14, 1));
        isWay(x, 30, 1);
        // There are still 40 when one takes another's place.
        DUE.yes(x.delta(0, 15, 20));
        isWay(x, 20, 1);
        DUE.no(x.delta(15, 0, 1));
    }

    private static void costWithoutDeltas() {
        RollStages x = new RollStages();
        x.machine(0, 0);
        isWay(x, 0, 0);
        x.release(0, false, 4321);
        isWay(x, 0, 0);
        x.pin(0, 0);
        isWay(x, 4321, 0);
        x.update(0);
        isWay(x, 0, 0);
        x.release(0, false, 77);
        x.pin(0, 1);
        isWay(x, 77, 0);
        x.pin(0, -1);
        isWay(x, 0, 0);
        x.revoke(0);
        isWay(x, 0, 0);
    }

    private static void cheapestWay() {
        RollStages x = fromFirstToLast(4);
        x.delta(0, 3, 500);
        isWay(x, 500, 1);
        x.delta(0, 1, 100);
        x.delta(1, 3, 399);
        isWay(x, 499, 2);
        x.delta(1, 2, 100);
        x.delta(2, 3, 298);
        isWay(x, 498, 3);
        x.delta(0, 2, 199);
        isWay(x, 497, 2);
        x.delta(0, 3, 496);
        isWay(x, 496, 1);
        // Asking for the way changes nothing.
        isWay(x, 496, 1);
        DUE.is(0, x.has(0));
    }

    private static void fewestDeltas() {
        RollStages x = fromFirstToLast(5);
        x.delta(0, 1, 10);
        x.delta(1, 2, 10);
        x.delta(2, 3, 10);
        x.delta(3, 4, 10);
        isWay(x, 40, 4);
        x.delta(1, 3, 20);
        isWay(x, 40, 3);
        x.delta(0, 3, 30);
        isWay(x, 40, 2);
        x.delta(0, 4, 40);
        isWay(x, 40, 1);
        x.delta(0, 4, 41);
        isWay(x, 40, 2);
    }

    private static void fourDeltasAtMost() {
        RollStages x = fromFirstToLast(6);
        for (int i = 0; i < 5; i++) {
            x.delta(i, i + 1, 1);
        }
        isWay(x, 1000, 0);
        x.delta(0, 2, 600);
        isWay(x, 603, 4);
        x.delta(3, 5, 700);
        isWay(x, 603, 4);
        x.delta(3, 5, 599);
        isWay(x, 602, 4);
    }

    private static void cheaperThanTheWhole() {
        RollStages x = fromFirstToLast(3);
        x.delta(0, 2, 1000);
        isWay(x, 1000, 0);
        x.delta(0, 2, 999);
        isWay(x, 999, 1);
        x.delta(0, 2, 1000);
        x.delta(0, 1, 500);
        x.delta(1, 2, 500);
        isWay(x, 1000, 0);
        x.delta(1, 2, 499);
        isWay(x, 999, 2);
        int small = x.release(0, false, 1);
        x.delta(0, small, 1);
        x.pin(0, small);
        isWay(x, 1, 0);
    }

    private static void noRevokedBetween() {
        RollStages x = fromFirstToLast(4);
        x.delta(0, 1, 1);
        x.delta(1, 3, 1);
        x.delta(0, 2, 5);
        x.delta(2, 3, 5);
        isWay(x, 2, 2);
        x.revoke(1);
        isWay(x, 10, 2);
        x.revoke(0);
        isWay(x, 10, 2);
        x.revoke(2);
        isWay(x, 1000, 0);
        x.delta(0, 3, 30);
        isWay(x, 30, 1);
    }

    private static void firstReleaseBetween() {
        RollStages x = fromFirstToLast(3);
        Setting.give(x, 0, 1);
        x.pin(0, 2);
        x.delta(1, 0, 4);
        x.delta(0, 2, 4);
        isWay(x, 8, 2);
        x.revoke(0);
        isWay(x, 1000, 0);
    }

    /** Neither answer may lean on the other one's having been asked before. */
    private static void eachAskedAlone() {
        RollStages x = fromFirstToLast(3);
        x.delta(0, 1, 4);
        x.delta(1, 2, 4);
        DUE.is(2, x.steps(0));
        x.delta(0, 2, 5);
        DUE.is(1, x.steps(0));
        x.delta(0, 2, 3);
        DUE.is(3, x.cost(0));
        x.delta(0, 2, 2);
        DUE.is(2, x.cost(0));
        x.update(0);
        DUE.is(0, x.cost(0));
        DUE.is(0, x.steps(0));
    }

    private static void directions() {
        RollStages x = fromFirstToLast(2);
        x.delta(1, 0, 10);
        isWay(x, 1000, 0);
        Setting.give(x, 0, 1);
        x.pin(0, 0);
        isWay(x, 10, 1);
        int foreign = Setting.fresh(x, 2);
        x.delta(1, foreign, 3);
        x.delta(foreign, 0, 3);
        isWay(x, 6, 2);
        // Round and round costs more than not to go round.
        x.delta(0, 1, 1);
        isWay(x, 6, 2);
    }

    private static void wrongMachines() {
        RollStages x = new RollStages();
        for (int wrong : Setting.WRONG_NUMBERS) {
            DUE.is(-1, x.cost(wrong));
            DUE.is(-1, x.steps(wrong));
        }
        DUE.is(-1, x.cost(0));
        DUE.is(-1, x.steps(0));
        x.machine(0, 0);
        DUE.is(0, x.cost(0));
        DUE.is(0, x.steps(0));
        DUE.is(-1, x.cost(1));
        DUE.is(-1, x.steps(1));
    }
}
