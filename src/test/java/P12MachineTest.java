/** Promise 12: machine. */
public final class P12MachineTest {
    private static final Due DUE = new Due("Promise 12, machine");

    public static void main(String[] args) {
        itsNumber();
        hasNothing();
        thirty();
        channels();
        rings();
        somethingIsntAsTold();
        DUE.end();
    }

    private static void itsNumber() {
        DUE.by("MACHINES, at most 30, numbered from 0");
        RollStages x = new RollStages();
        for (int number = 0; number < 30; number++) {
            DUE.is(-1, x.row(number));
            DUE.is(number, x.machine(number % 3, number % 4));
            DUE.is(Setting.ROWS[number], x.row(number));
        }
    }

    private static void hasNothing() {
        DUE.by("A new MACHINE that HAS nothing");
        RollStages x = new RollStages();
        Setting.full(x, 0);
        x.machine(0, 0);
        DUE.is(-1, x.has(0));
        DUE.is(1000, x.cost(0));
        DUE.is(0, x.steps(0));
        x.update(0);
        x.pin(0, 0);
        // What the one before has and is pinned to is not the next one's.
        x.machine(1, 0);
        DUE.is(-1, x.has(1));
        DUE.is(-1, x.offered(1));
    }

    private static void thirty() {
        DUE.by("NONE if there are 30");
        Refused full = new Refused(DUE, Town::full);
        full.none(x -> x.machine(0, 0));
        full.none(x -> x.machine(2, 3));
        full.none(x -> x.machine(3, 4));
        RollStages x = new RollStages();
        for (int number = 0; number < 29; number++) {
            x.machine(0, 0);
        }
        DUE.is(29, x.machine(2, 3));
        DUE.is(-1, x.machine(0, 0));
        DUE.is(-1, x.machine(2, 3));
        DUE.is(605, x.row(29));
        DUE.is(-1, x.row(30));
        int release = Setting.full(x, 2);
        DUE.is(release, x.update(29));
        DUE.is(-1, x.update(30));
    }

    private static void channels() {
        DUE.by("CHANNELS 0 .. 2");
        RollStages x = new RollStages();
        for (int wrong : new int[] {-1, -2, 3, 4, 1 << 8, 1 << 16, Setting.LOWEST, Setting.HIGHEST}) {
            DUE.is(-1, x.machine(wrong, 0));
            DUE.is(-1, x.machine(wrong, 3));
        }
        for (int channel = 0; channel < 3; channel++) {
            DUE.is(channel, x.machine(channel, 0));
            int release = Setting.full(x, channel);
            for (int machine = 0; machine <= channel; machine++) {
                DUE.is(machine == channel ? 1 : 0, x.may(machine, release) ? 1 : 0);
            }
        }
    }

    private static void rings() {
        DUE.by("a RING 0 .. 3");
        RollStages x = new RollStages();
        for (int wrong : new int[] {-1, -2, 4, 5, 1 << 8, 1 << 16, Setting.LOWEST, Setting.HIGHEST}) {
            DUE.is(-1, x.machine(0, wrong));
            DUE.is(-1, x.machine(2, wrong));
        }
        for (int ring = 0; ring < 4; ring++) {
            DUE.is(ring, x.machine(0, ring));
        }
        Setting.rolling(x, 0, false, 1000);
        DUE.yes(x.may(0, 0));
        DUE.no(x.may(1, 0));
    }

    private static void somethingIsntAsTold() {
        DUE.by("or something isn't as told");
        Refused mixed = new Refused(DUE, Town::mixed);
        mixed.none(x -> x.machine(-1, 0));
        mixed.none(x -> x.machine(3, 0));
        mixed.none(x -> x.machine(0, -1));
        mixed.none(x -> x.machine(0, 4));
        mixed.none(x -> x.machine(3, 4));
        RollStages x = Town.mixed();
        x.machine(3, 0);
        x.machine(0, 4);
        // The refused ones took no number away.
        DUE.is(Town.MACHINES, x.machine(0, 3));
        DUE.is(Setting.ROWS[Town.MACHINES], x.row(Town.MACHINES));
    }
}
