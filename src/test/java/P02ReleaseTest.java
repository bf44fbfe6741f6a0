/** Promise 2: release. */
public final class P02ReleaseTest {
    private static final Due DUE = new Due("Promise 2, release");

    public static void main(String[] args) {
        itsNumber();
        isNew();
        bytes();
        sixteen();
        refusedBehindSixteen();
        channels();
        somethingIsntAsTold();
        forSecurity();
        DUE.end();
    }

    private static void itsNumber() {
        DUE.by("numbered from 0 (the greater, the newer)");
        RollStages x = new RollStages();
        for (int number = 0; number < 16; number++) {
            DUE.is(-1, x.about(number, Setting.STATE));
            DUE.is(number, x.release(number % 3, number % 2 == 0, 1 + number));
            DUE.is(Setting.NEW, x.about(number, Setting.STATE));
        }
    }

    private static void isNew() {
        DUE.by("A new RELEASE");
        RollStages x = new RollStages();
        x.tick(5);
        x.release(0, true, 1);
        DUE.text("0 -1 0 0 0", Setting.about(x, 0));
        DUE.no(x.start(0));
        DUE.no(x.report(0, 1, 0));
        x.tick(2000);
        DUE.text("0 -1 0 0 0", Setting.about(x, 0));
    }

    private static void bytes() {
        DUE.by("of so many bytes WHOLE (1 .. 100000)");
        RollStages x = new RollStages();
        x.machine(0, 0);
        for (int wrong : new int[] {0, -1, Setting.LOWEST, 100001, 100002, Setting.HIGHEST, 1 << 17}) {
            DUE.is(-1, x.release(0, false, wrong));
        }
        int[] right = {1, 2, 99999, 100000};
        for (int number = 0; number < right.length; number++) {
            DUE.is(number, x.release(0, false, right[number]));
            x.pin(0, number);
            DUE.is(right[number], x.cost(0));
        }
    }

    private static void sixteen() {
        DUE.by("NONE if there are 16");
        RollStages x = new RollStages();
        for (int number = 0; number < 15; number++) {
            x.release(0, false, 1);
        }
        DUE.is(15, x.release(2, false, 77));
        DUE.is(-1, x.release(0, false, 1));
        DUE.is(-1, x.release(0, false, 1));
        DUE.is(Setting.NEW, x.about(15, Setting.STATE));
        DUE.is(-1, x.about(16, Setting.STATE));
        DUE.yes(x.back(2, 15));
        x.machine(2, 0);
        x.pin(0, 15);
        DUE.is(77, x.cost(0));
        // A revoked one is still one of them.
        x.revoke(3);
        DUE.is(-1, x.release(0, false, 1));
        DUE.is(Setting.REVOKED, x.about(3, Setting.STATE));
    }

    private static void refusedBehindSixteen() {
        DUE.by("RELEASES, at most 16");
        Refused full = new Refused(DUE, Town::full);
        full.none(x -> x.release(0, false, 1));
        full.none(x -> x.release(2, true, 100000));
        full.none(x -> x.release(3, true, 0));
    }

    private static void channels() {
        DUE.by("CHANNELS 0 .. 2");
        RollStages x = new RollStages();
        for (int wrong : new int[] {-1, -2, 3, 4, 1 << 8, 1 << 16, Setting.LOWEST, Setting.HIGHEST}) {
            DUE.is(-1, x.release(wrong, false, 1));
            DUE.is(-1, x.release(wrong, true, 100000));
        }
        for (int channel = 0; channel < 3; channel++) {
            DUE.is(channel, x.release(channel, false, 1));
            for (int other = 0; other < 3; other++) {
                DUE.is(other == channel ? 1 : 0, x.back(other, channel) ? 1 : 0);
            }
        }
    }

    private static void somethingIsntAsTold() {
        DUE.by("or something isn't as told");
        Refused mixed = new Refused(DUE, Town::mixed);
        mixed.none(x -> x.release(-1, false, 1));
        mixed.none(x -> x.release(3, false, 1));
        mixed.none(x -> x.release(0, false, 0));
        mixed.none(x -> x.release(2, true, 100001));
        mixed.none(x -> x.release(3, true, 100001));
        RollStages x = Town.mixed();
        x.release(3, false, 1);
        x.release(0, false, 0);
        // The refused ones took no number away.
        DUE.is(Town.RELEASES, x.release(0, false, 1));
    }

    private static void forSecurity() {
        DUE.by("perhaps for SECURITY");
        RollStages x = new RollStages();
        x.machine(0, 3);
        Setting.rolling(x, 0, false, 0);
        Setting.rolling(x, 0, true, 0);
        DUE.no(x.may(0, 0));
        DUE.yes(x.may(0, 1));
    }
}
