/** Promise 21: has. */
public final class P21HasTest {
    private static final Due DUE = new Due("Promise 21, has");

    public static void main(String[] args) {
        whatItHas();
        nothing();
        noneSuch();
        onlyByUpdate();
        DUE.end();
    }

    private static void whatItHas() {
        DUE.by("What a MACHINE HAS");
        RollStages x = new RollStages();
        x.machine(0, 0);
        for (int release = 0; release < 16; release++) {
            Setting.fresh(x, release % 3);
        }
        for (int release : new int[] {0, 15, 7, 1}) {
            Setting.give(x, 0, release);
            DUE.is(release, x.has(0));
        }
        // Revoked or above the bound, it has it still.
        x.revoke(1);
        DUE.is(1, x.has(0));
        Setting.give(x, 0, 3);
        x.back(0, 0);
        DUE.is(3, x.has(0));
    }

    private static void nothing() {
        DUE.by("NONE if nothing");
        RollStages x = new RollStages();
        Setting.full(x, 0);
        for (int machine = 0; machine < 30; machine++) {
            x.machine(0, 0);
            DUE.is(-1, x.has(machine));
        }
    }

    private static void noneSuch() {
        DUE.by("NONE if nothing, or there is none such");
        RollStages x = Town.mixed();
        for (int wrong : Setting.notBelow(Town.MACHINES)) {
            DUE.is(-1, x.has(wrong));
        }
        RollStages y = new RollStages();
        Setting.full(y, 0);
        for (int number = 0; number < 30; number++) {
            DUE.is(-1, y.has(number));
            y.machine(0, 0);
            y.update(number);
            DUE.is(0, y.has(number));
        }
        DUE.is(-1, y.has(30));
        new Refused(DUE, Town::mixed).none(z -> z.has(Town.MACHINES));
    }

    private static void onlyByUpdate() {
        DUE.by("perhaps a RELEASE that they HAVE");
        RollStages x = new RollStages();
        x.machine(0, 0);
        Setting.full(x, 0);
        x.pin(0, 0);
        x.offered(0);
        x.cost(0);
        x.may(0, 0);
        DUE.is(-1, x.has(0));
        x.update(0);
        x.pin(0, -1);
        DUE.is(0, x.has(0));
        DUE.is(0, x.has(0));
    }
}
