/** Promise 18: cost. */
public final class P18CostTest {
    private static final Due DUE = new Due("Promise 18, cost");

    public static void main(String[] args) {
        theWhole();
        hasThat();
        nothingIsOffered();
        fromTheOneItHas();
        cheapest();
        fourDeltas();
        cheaperThanTheWhole();
        greatestSums();
        noneBetweenIsRevoked();
        eachReleaseBetween();
        theEndsOfAWay();
        throughAnyRelease();
        noneSuch();
        asksChangeNothing();
        DUE.end();
    }

    private static void theWhole() {
        DUE.by("a WHOLE RELEASE has a size");
        for (int whole : new int[] {1, 2, 4321, 100000}) {
            RollStages x = Ways.fromFirstToLast(2, whole);
            DUE.is(whole, x.cost(0));
        }
    }

    private static void hasThat() {
        DUE.by("0 if it HAS that");
        RollStages x = Ways.fromFirstToLast(2);
        x.delta(0, 1, 10);
        x.delta(1, 0, 10);
        DUE.is(10, x.cost(0));
        x.update(0);
        DUE.is(0, x.cost(0));
        x.pin(0, -1);
        DUE.is(1, x.offered(0));
        DUE.is(0, x.cost(0));
        x.pin(0, 0);
        DUE.is(10, x.cost(0));
    }

    private static void nothingIsOffered() {
        DUE.by("or nothing is OFFERED; NONE if there is none such");
        RollStages x = new RollStages();
        x.machine(0, 0);
        DUE.is(0, x.cost(0));
        Setting.fresh(x, 0);
        DUE.is(0, x.cost(0));
        // Also to one that has a release.
        Setting.give(x, 0, 0);
        x.revoke(0);
        DUE.is(-1, x.offered(0));
        DUE.is(0, x.cost(0));
    }

    private static void fromTheOneItHas() {
        DUE.by("from the one that a MACHINE HAS");
        RollStages x = Ways.fromFirstToLast(3);
        x.delta(1, 2, 10);
        DUE.is(1000, x.cost(0));
        Setting.give(x, 0, 1);
        x.pin(0, 2);
        DUE.is(10, x.cost(0));
        // One that has nothing comes up by the whole.
        x.machine(0, 0);
        x.pin(1, 2);
        x.delta(0, 2, 1);
        DUE.is(1000, x.cost(1));
        DUE.is(0, x.steps(1));
    }

    private static void cheapest() {
        DUE.by("the cheapest one by the sum of sizes");
        RollStages x = Ways.fromFirstToLast(4);
        x.delta(0, 3, 500);
        DUE.is(500, x.cost(0));
        x.delta(0, 1, 100);
        x.delta(1, 3, 401);
        DUE.is(500, x.cost(0));
        x.delta(1, 3, 399);
        DUE.is(499, x.cost(0));
        x.delta(1, 2, 100);
        x.delta(2, 3, 298);
        DUE.is(498, x.cost(0));
        x.delta(0, 2, 199);
        DUE.is(497, x.cost(0));
        x.delta(0, 3, 496);
        DUE.is(496, x.cost(0));
    }

    /** Deltas of 1 from each release to the next one. */
    private static RollStages chain(int deltas) {
        RollStages x = Ways.fromFirstToLast(deltas + 1);
        for (int from = 0; from < deltas; from++) {
            x.delta(from, from + 1, 1);
        }
        return x;
    }

    private static void fourDeltas() {
        DUE.by("A WAY up to a RELEASE: a row of at most 4 DELTAS");
        for (int deltas = 1; deltas <= 4; deltas++) {
            DUE.is(deltas, chain(deltas).cost(0));
        }
        DUE.is(1000, chain(5).cost(0));
        DUE.is(1000, chain(15).cost(0));
        // A dearer row is taken where the cheaper one has 5.
        RollStages x = chain(5);
        x.delta(0, 2, 600);
        DUE.is(603, x.cost(0));
        x.delta(3, 5, 700);
        DUE.is(603, x.cost(0));
        x.delta(3, 5, 599);
        DUE.is(602, x.cost(0));
    }

    private static void cheaperThanTheWhole() {
        DUE.by("if it is cheaper than the WHOLE one");
        RollStages x = Ways.fromFirstToLast(2, 500);
        x.delta(0, 1, 501);
        DUE.is(500, x.cost(0));
        x.delta(0, 1, 500);
        DUE.is(500, x.cost(0));
        x.delta(0, 1, 499);
        DUE.is(499, x.cost(0));
        RollStages least = Ways.fromFirstToLast(2, 1);
        least.delta(0, 1, 1);
        DUE.is(1, least.cost(0));
        RollStages next = Ways.fromFirstToLast(2, 2);
        next.delta(0, 1, 1);
        DUE.is(1, next.cost(0));
    }

    /** Four deltas of the greatest size, against a whole one of so many bytes. */
    private static RollStages fourGreatest(int whole) {
        RollStages x = Ways.fromFirstToLast(5, whole);
        for (int from = 0; from < 4; from++) {
            x.delta(from, from + 1, 1000);
        }
        return x;
    }

    private static void greatestSums() {
        DUE.by("by the sum of sizes");
        DUE.is(3999, fourGreatest(3999).cost(0));
        DUE.is(4000, fourGreatest(4000).cost(0));
        DUE.is(4000, fourGreatest(4001).cost(0));
        DUE.is(4000, fourGreatest(100000).cost(0));
    }

    private static void noneBetweenIsRevoked() {
        DUE.by("(None of the RELEASES on the way between may be REVOKED.)");
        for (int between = 1; between <= 3; between++) {
            RollStages x = chain(4);
            DUE.is(4, x.cost(0));
            x.revoke(between);
            DUE.is(1000, x.cost(0));
        }
        // The next cheapest way is taken then.
        RollStages x = Ways.fromFirstToLast(4);
        x.delta(0, 1, 1);
        x.delta(1, 3, 1);
        x.delta(0, 2, 5);
        x.delta(2, 3, 5);
        DUE.is(2, x.cost(0));
        x.revoke(1);
        DUE.is(10, x.cost(0));
        x.revoke(2);
        DUE.is(1000, x.cost(0));
        x.delta(0, 3, 30);
        DUE.is(30, x.cost(0));
    }

    private static void eachReleaseBetween() {
        DUE.by("(None of the RELEASES on the way between may be REVOKED.)");
        for (int between = 0; between < 16; between++) {
            int from = (between + 1) % 16;
            int to = (between + 2) % 16;
            RollStages x = Ways.fromFirstToLast(16);
            Setting.give(x, 0, from);
            x.pin(0, to);
            x.delta(from, between, 4);
            x.delta(between, to, 5);
            DUE.text("9 by 2", Ways.way(x));
            x.revoke(between);
            DUE.text("1000 by 0", Ways.way(x));
        }
    }

    /** The release that it has is not between: a machine leaves a revoked one by deltas, too. */
    private static void theEndsOfAWay() {
        DUE.by("on the way between");
        RollStages x = chain(4);
        x.revoke(0);
        DUE.is(4, x.cost(0));
        x.delta(0, 4, 3);
        DUE.is(3, x.cost(0));
        // A revoked end is not offered.
        x.revoke(4);
        DUE.is(-1, x.offered(0));
        DUE.is(0, x.cost(0));
    }

    private static void throughAnyRelease() {
        DUE.by("a row of at most 4 DELTAS from the one that a MACHINE HAS");
        RollStages x = new RollStages();
        x.machine(0, 0);
        Setting.full(x, 0);
        Setting.full(x, 0);
        int other = Setting.fresh(x, 1);
        int above = Setting.fresh(x, 0);
        x.update(0);
        x.back(0, 0);
        DUE.is(0, x.offered(0));
        DUE.is(1000, x.cost(0));
        // Up and down, through another channel and above the bound.
        x.delta(1, other, 3);
        x.delta(other, above, 4);
        x.delta(above, 0, 5);
        DUE.is(12, x.cost(0));
        x.delta(1, 0, 11);
        DUE.is(11, x.cost(0));
        // A row that goes round is dearer.
        x.delta(other, 1, 1);
        DUE.is(11, x.cost(0));
    }

    private static void noneSuch() {
        DUE.by("NONE if there is none such");
        RollStages x = Town.mixed();
        for (int wrong : Setting.notBelow(Town.MACHINES)) {
            DUE.is(-1, x.cost(wrong));
        }
        RollStages y = new RollStages();
        for (int number = 0; number < 30; number++) {
            DUE.is(-1, y.cost(number));
            y.machine(0, 0);
            DUE.is(0, y.cost(number));
        }
        DUE.is(-1, y.cost(30));
    }

    private static void asksChangeNothing() {
        DUE.by("by which a MACHINE would come to what it is OFFERED");
        new Refused(DUE, Town::mixed).none(x -> x.cost(Town.MACHINES));
        RollStages x = chain(3);
        DUE.is(3, x.cost(0));
        DUE.is(0, x.has(0));
        DUE.is(3, x.cost(0));
        x.delta(0, 3, 2);
        DUE.is(2, x.cost(0));
        x.update(0);
        DUE.is(0, x.cost(0));
    }
}
