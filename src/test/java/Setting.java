/** Releases and machines in states that many tests begin with. */
final class Setting {
    static final int STATE = 0;
    static final int STAGE = 1;
    static final int WHY = 2;
    static final int SHARE = 3;
    static final int REPORTS = 4;

    static final int NEW = 0;
    static final int ROLLING = 1;
    static final int HELD = 2;
    static final int FULL = 3;
    static final int REVOKED = 4;

    static final int NONE = RollStages.NONE;
    static final int[] WRONG_NUMBERS = {-1, -2, Integer.MIN_VALUE, Integer.MAX_VALUE, 16, 30, 1 << 16};

    private Setting() {
    }

    /** A release of 1000 bytes that rolls at its one stage, which waits a tick. */
    static int rolling(RollStages x, int channel, boolean security, int share) {
        int release = x.release(channel, security, 1000);
        x.stage(release, share, 1);
        x.start(release);
        return release;
    }

    static int full(RollStages x, int channel) {
        int release = rolling(x, channel, false, 1000);
        x.report(release, 1, 0);
        x.tick(1);
        return release;
    }

    static int fresh(RollStages x, int channel) {
        return x.release(channel, false, 1000);
    }

    /** A machine that has the release, though it may not get it, and no pin any more. */
    static int machineThatHas(RollStages x, int channel, int release) {
        int machine = x.machine(channel, 0);
        give(x, machine, release);
        return machine;
    }

    static void give(RollStages x, int machine, int release) {
        x.pin(machine, release);
        x.update(machine);
        x.pin(machine, NONE);
    }
}
