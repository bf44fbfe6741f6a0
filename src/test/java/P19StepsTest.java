/** Promise 19: steps. */
public final class P19StepsTest {
    private static final Due DUE = new Due("Promise 19, steps");

    public static void main(String[] args) {
        howMany();
        ofTheCheapest();
        theFewest();
        zeroForTheWhole();
        zeroForNothing();
        revokedBetween();
        noneSuch();
        asksChangeNothing();
        DUE.end();
    }

    private static RollStages chain(int deltas) {
        RollStages x = Ways.fromFirstToLast(deltas + 1);
        for (int from = 0; from < deltas; from++) {
            x.delta(from, from + 1, 10);
        }
        return x;
    }

    private static void howMany() {
        DUE.by("How many DELTAS that WAY has");
        for (int deltas = 1; deltas <= 4; deltas++) {
            DUE.is(deltas, chain(deltas).steps(0));
        }
        DUE.is(0, chain(5).steps(0));
    }

    private static void ofTheCheapest() {
        DUE.by("the cheapest one by the sum of sizes");
        RollStages x = chain(4);
        x.delta(0, 4, 41);
        DUE.is(4, x.steps(0));
        x.delta(0, 3, 31);
        DUE.is(4, x.steps(0));
        x.delta(0, 4, 39);
        DUE.is(1, x.steps(0));
    }

    private static void theFewest() {
        DUE.by("of those the one with the fewest DELTAS");
        RollStages x = chain(4);
        DUE.is(4, x.steps(0));
        x.delta(1, 3, 20);
        DUE.text("40 by 3", Ways.way(x));
        x.delta(0, 3, 30);
        DUE.text("40 by 2", Ways.way(x));
        x.delta(0, 4, 40);
        DUE.text("40 by 1", Ways.way(x));
        x.delta(0, 4, 41);
        DUE.text("40 by 2", Ways.way(x));
    }

    private static void zeroForTheWhole() {
        DUE.by("0 for the WHOLE");
        RollStages x = Ways.fromFirstToLast(3, 500);
        DUE.is(0, x.steps(0));
        x.delta(0, 2, 501);
        DUE.is(0, x.steps(0));
        x.delta(0, 2, 500);
        DUE.is(0, x.steps(0));
        x.delta(0, 1, 250);
        x.delta(1, 2, 250);
        DUE.is(0, x.steps(0));
        x.delta(0, 2, 499);
        DUE.is(1, x.steps(0));
        x.delta(1, 2, 248);
        DUE.is(2, x.steps(0));
    }

    private static void zeroForNothing() {
        DUE.by("0 for the WHOLE or nothing");
        RollStages x = new RollStages();
        x.machine(0, 0);
        DUE.is(0, x.steps(0));
        RollStages y = chain(3);
        DUE.is(3, y.steps(0));
        y.update(0);
        DUE.is(0, y.steps(0));
        // Nor by a row of deltas that leads back to the one it has.
        y.delta(3, 0, 1);
        DUE.is(0, y.steps(0));
        y.revoke(3);
        DUE.is(-1, y.offered(0));
        DUE.is(0, y.steps(0));
    }

    private static void revokedBetween() {
        DUE.by("(None of the RELEASES on the way between may be REVOKED.)");
        for (int between = 1; between <= 3; between++) {
            RollStages x = chain(4);
            x.revoke(between);
            DUE.is(0, x.steps(0));
        }
        RollStages first = chain(4);
        first.revoke(0);
        DUE.is(4, first.steps(0));
        for (int between : new int[] {0, 15}) {
            RollStages x = Ways.fromFirstToLast(16);
            Setting.give(x, 0, 7);
            x.pin(0, 8);
            x.delta(7, between, 4);
            x.delta(between, 8, 5);
            DUE.is(2, x.steps(0));
            x.revoke(between);
            DUE.is(0, x.steps(0));
        }
    }

    private static void noneSuch() {
        DUE.by("NONE if there is none such");
        RollStages x = Town.mixed();
        for (int wrong : Setting.notBelow(Town.MACHINES)) {
            DUE.is(-1, x.steps(wrong));
        }
        RollStages y = new RollStages();
        for (int number = 0; number < 30; number++) {
            DUE.is(-1, y.steps(number));
            y.machine(0, 0);
            DUE.is(0, y.steps(number));
        }
        DUE.is(-1, y.steps(30));
    }

    /** Nor does its answer lean on the cost's having been asked before. */
    private static void asksChangeNothing() {
        DUE.by("How many DELTAS that WAY has; 0 for the WHOLE or nothing");
        new Refused(DUE, Town::mixed).none(x -> x.steps(Town.MACHINES));
        RollStages x = chain(2);
        DUE.is(2, x.steps(0));
        DUE.is(2, x.steps(0));
        x.delta(0, 2, 5);
        DUE.is(1, x.steps(0));
        DUE.is(0, x.has(0));
    }
}
