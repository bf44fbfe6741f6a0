/** Objects with something in every state, or with as much of all as there can be, and what they answer later on. */
final class Town {
    /** Releases of a mixed town: of channel 0 up to BARRED, then of channel 1. */
    static final int FRESH = 0;
    static final int STAGED = 1;
    static final int ROLLING = 2;
    static final int UNHEARD = 3;
    static final int UNWELL = 4;
    static final int STOPPED = 5;
    static final int FULL = 6;
    static final int BARRED = 7;
    static final int URGENT = 8;
    static final int OTHER = 9;
    static final int RELEASES = 10;
    /** By number: state, stage, why it is held, share and reports. */
    static final String[] ABOUT = {
        "0 -1 0 0 0", "0 -1 0 0 0", "1 1 0 500 3", "2 0 1 600 0", "2 0 2 600 2",
        "2 0 3 300 1", "3 -1 0 1000 6", "4 -1 0 0 0", "1 0 0 600 0", "3 -1 0 1000 1"};
    static final int MACHINES = 5;

    private static final int MOST_RELEASES = 16;
    private static final int[] ASKED_MACHINES = {0, 1, 2, 3, 4, 29};

    private Town() {
    }

    /** A release in each state, held for each reason, and machines with a bound, pins, and ways. */
    static RollStages mixed() {
        RollStages x = new RollStages();
        for (int i = 0; i < RELEASES; i++) {
            x.release(i > BARRED ? 1 : 0, i == URGENT, 100 + i);
        }
        stages(x);
        firstRolls(x);
        secondRolls(x);
        machines(x);
        return x;
    }

    private static void stages(RollStages x) {
        x.stage(STAGED, 300, 1);
        x.stage(STAGED, 400, 3);
        x.stage(ROLLING, 200, 2);
        x.stage(ROLLING, 500, 2);
        x.stage(ROLLING, 800, 3);
        x.stage(STOPPED, 300, 1);
        x.stage(STOPPED, 900, 2);
        for (int one : new int[] {UNHEARD, UNWELL, FULL, BARRED, URGENT, OTHER}) {
            x.stage(one, 600, 2);
        }
    }

    private static void firstRolls(RollStages x) {
        for (int one : new int[] {ROLLING, UNHEARD, UNWELL, FULL, OTHER}) {
            x.start(one);
        }
        x.health(UNWELL, 1, 3);
        x.report(UNWELL, 1, 1);
        x.report(FULL, 5, 1);
        x.report(OTHER, 1, 0);
        x.report(ROLLING, 4, 0);
        x.tick(2);
    }

    private static void secondRolls(RollStages x) {
        x.report(ROLLING, 2, 1);
        x.start(STOPPED);
        x.report(STOPPED, 1, 0);
        x.hold(STOPPED, true);
        x.start(BARRED);
        x.revoke(BARRED);
        x.start(URGENT);
        x.tick(1);
    }

    private static void machines(RollStages x) {
        x.machine(0, 0);
        x.machine(0, 1);
        x.machine(0, 2);
        x.machine(1, 3);
        x.machine(2, 0);
        Setting.give(x, 0, ROLLING);
        Setting.give(x, 1, FRESH);
        Setting.give(x, 3, OTHER);
        x.pin(2, STAGED);
        x.pin(4, BARRED);
        x.delta(FRESH, STAGED, 40);
        x.delta(STAGED, FULL, 50);
        x.delta(FRESH, FULL, 99);
        x.delta(ROLLING, STAGED, 30);
        x.delta(OTHER, URGENT, 9);
        x.back(0, FULL);
    }

    /** 16 releases, of which the first has 5 stages and rolls; 30 machines; 40 deltas. */
    static RollStages full() {
        RollStages x = new RollStages();
        for (int i = 0; i < MOST_RELEASES; i++) {
            x.release(i % 3, false, 5000);
        }
        for (int i = 0; i < 5; i++) {
            x.stage(0, 200 * i, i);
        }
        x.start(0);
        for (int i = 0; i < 30; i++) {
            x.machine(i % 3, i % 4);
        }
        fortyDeltas(x);
        Setting.give(x, 0, 1);
        x.pin(0, 15);
        Setting.give(x, 1, 0);
        x.pin(1, 4);
        return x;
    }

    /** From each release but two to the next ones, up to three further. */
    private static void fortyDeltas(RollStages x) {
        int made = 0;
        for (int from = 0; from < MOST_RELEASES; from++) {
            for (int to = from + 1; to <= from + 3 && to < MOST_RELEASES && made < 40; to++) {
                x.delta(from, to, 100 + 10 * from + to);
                made++;
            }
        }
    }

    /**
     * A long fixed run of calls, and all their answers. It rolls all that can roll, so that what can't be
     * asked for (stages to come, waits, health rules, bounds) shows as well. Some 300 calls.
     */
    static String later(RollStages x) {
        Told told = new Told();
        askAll(x, told);
        for (int i = 0; i < MOST_RELEASES; i++) {
            told.of(x.stage(i, 600, 1)).of(x.start(i)).of(x.hold(i, false)).of(x.report(i, 2, 1));
        }
        told.of(x.tick(1));
        askStates(x, told);
        for (int i = 0; i < MOST_RELEASES; i++) {
            told.of(x.report(i, 1, 1));
        }
        told.of(x.tick(3));
        askStates(x, told);
        for (int machine : ASKED_MACHINES) {
            told.of(x.pin(machine, Setting.NONE)).of(x.offered(machine)).of(x.cost(machine)).of(x.steps(machine));
        }
        told.of(x.release(2, false, 9)).of(x.machine(2, 3)).of(x.delta(0, 9, 1)).of(x.tick(0));
        return told.toString();
    }

    private static void askAll(RollStages x, Told told) {
        told.of(x.tick(0));
        for (int i = 0; i < MOST_RELEASES; i++) {
            for (int what = Setting.STATE; what <= Setting.REPORTS; what++) {
                told.of(x.about(i, what));
            }
        }
        for (int machine : ASKED_MACHINES) {
            told.of(x.row(machine)).of(x.has(machine)).of(x.offered(machine));
            told.of(x.cost(machine)).of(x.steps(machine));
        }
    }

    private static void askStates(RollStages x, Told told) {
        for (int i = 0; i < MOST_RELEASES; i++) {
            told.of(x.about(i, Setting.STATE)).of(x.about(i, Setting.SHARE));
        }
    }

    /** Answers, one behind the other. */
    private static final class Told {
        private final StringBuilder text = new StringBuilder();

        Told of(int answer) {
            text.append(answer).append(' ');
            return this;
        }

        Told of(boolean answer) {
            return of(answer ? 1 : 0);
        }

        @Override
        public String toString() {
            return text.toString();
        }
    }
}
