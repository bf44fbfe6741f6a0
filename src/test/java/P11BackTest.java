/** Promise 11: back. */
public final class P11BackTest {
    private static final Due DUE = new Due("Promise 11, back");

    public static void main(String[] args) {
        itsBound();
        noneMayBe();
        noSuchChannel();
        releaseIsNoneOfIt();
        noSuchRelease();
        eachChannelAlone();
        toEveryState();
        aNewerBound();
        DUE.end();
    }

    /** Four full releases of channel 0 and a machine that may get them all. */
    private static RollStages fourFull() {
        RollStages x = new RollStages();
        for (int i = 0; i < 4; i++) {
            Setting.full(x, 0);
        }
        x.machine(0, 0);
        return x;
    }

    private static void itsBound() {
        DUE.by("GOING BACK of a CHANNEL to a RELEASE of it (or NONE: no longer): its BOUND");
        RollStages x = fourFull();
        DUE.is(3, x.offered(0));
        for (int bound = 0; bound < 4; bound++) {
            DUE.yes(x.back(0, bound));
            DUE.is(bound, x.offered(0));
            for (int release = 0; release < 4; release++) {
                DUE.is(release <= bound ? 1 : 0, x.may(0, release) ? 1 : 0);
            }
        }
        // One that comes later is above it.
        Setting.full(x, 0);
        DUE.is(3, x.offered(0));
    }

    private static void noneMayBe() {
        DUE.by("(NONE may be)");
        RollStages x = fourFull();
        DUE.yes(x.back(0, -1));
        DUE.is(3, x.offered(0));
        x.back(0, 0);
        DUE.is(0, x.offered(0));
        DUE.yes(x.back(0, -1));
        DUE.is(3, x.offered(0));
        RollStages empty = new RollStages();
        for (int channel = 0; channel < 3; channel++) {
            DUE.yes(empty.back(channel, -1));
        }
    }

    private static void noSuchChannel() {
        DUE.by("GOING BACK; false if there is no such CHANNEL");
        Refused mixed = new Refused(DUE, Town::mixed);
        for (int wrong : new int[] {-1, -2, 3, 4, 1 << 8, 1 << 16, Setting.LOWEST, Setting.HIGHEST}) {
            mixed.no(x -> x.back(wrong, -1));
            mixed.no(x -> x.back(wrong, 0));
            mixed.no(x -> x.back(wrong, 16));
        }
        RollStages x = Town.mixed();
        DUE.yes(x.back(0, -1));
        DUE.yes(x.back(2, -1));
    }

    private static void releaseIsNoneOfIt() {
        DUE.by("or the RELEASE is none of it");
        Refused mixed = new Refused(DUE, Town::mixed);
        mixed.no(x -> x.back(0, Town.URGENT));
        mixed.no(x -> x.back(0, Town.OTHER));
        mixed.no(x -> x.back(1, Town.BARRED));
        mixed.no(x -> x.back(1, Town.FRESH));
        mixed.no(x -> x.back(2, Town.FRESH));
        mixed.no(x -> x.back(2, Town.OTHER));
        // The bound before stays.
        RollStages y = fourFull();
        int other = Setting.full(y, 1);
        y.back(0, 1);
        DUE.no(y.back(0, other));
        DUE.no(y.back(0, 5));
        DUE.is(1, y.offered(0));
    }

    private static void noSuchRelease() {
        DUE.by("or the RELEASE is none of it (NONE may be)");
        Refused mixed = new Refused(DUE, Town::mixed);
        for (int wrong : Setting.notBelow(Town.RELEASES)) {
            if (wrong != Setting.NONE) {
                mixed.no(x -> x.back(0, wrong));
                mixed.no(x -> x.back(2, wrong));
            }
        }
        RollStages x = new RollStages();
        for (int number = 0; number < 16; number++) {
            DUE.no(x.back(number % 3, number));
            Setting.fresh(x, number % 3);
            DUE.yes(x.back(number % 3, number));
        }
        DUE.no(x.back(1, 16));
    }

    private static void eachChannelAlone() {
        DUE.by("GOING BACK of a CHANNEL");
        RollStages x = new RollStages();
        for (int release = 0; release < 6; release++) {
            Setting.full(x, release % 3);
        }
        for (int channel = 0; channel < 3; channel++) {
            x.machine(channel, 0);
        }
        DUE.yes(x.back(1, 1));
        DUE.is(3, x.offered(0));
        DUE.is(1, x.offered(1));
        DUE.is(5, x.offered(2));
        DUE.yes(x.back(2, 2));
        DUE.is(3, x.offered(0));
        DUE.is(1, x.offered(1));
        DUE.is(2, x.offered(2));
        DUE.yes(x.back(1, -1));
        DUE.is(4, x.offered(1));
        DUE.is(2, x.offered(2));
    }

    private static void toEveryState() {
        DUE.by("to a RELEASE of it");
        RollStages x = Town.mixed();
        for (int release = 0; release < Town.RELEASES; release++) {
            DUE.yes(x.back(release > Town.BARRED ? 1 : 0, release));
        }
        // A revoked bound bounds as well.
        RollStages y = fourFull();
        y.revoke(2);
        DUE.yes(y.back(0, 2));
        DUE.is(1, y.offered(0));
    }

    private static void aNewerBound() {
        DUE.by("its BOUND");
        RollStages x = fourFull();
        x.back(0, 0);
        DUE.yes(x.back(0, 2));
        DUE.is(2, x.offered(0));
        DUE.yes(x.back(0, 2));
        DUE.is(2, x.offered(0));
    }
}
