/** Numbers of the document, and releases and machines in states that many tests begin with. */
final class Setting {
    static final int STATE = 0;
    static final int STAGE = 1;
    static final int WHY = 2;
    static final int SHARE = 3;
    static final int REPORTS = 4;

    static final int NEW = 0;
    static final int ROLLING = 1;
    static final int HELD = 2;
    static final int FULL = 3;
    static final int REVOKED = 4;

    static final int NONE = RollStages.NONE;
    static final int LOWEST = Integer.MIN_VALUE;
    static final int HIGHEST = Integer.MAX_VALUE;

    /** By a machine's number: what the document's formula makes of it. */
    static final int[] ROWS = {
        779, 126, 906, 253, 600, 380, 727, 507, 854, 201, 981, 328, 675, 455, 802,
        582, 929, 276, 56, 403, 183, 530, 877, 657, 4, 351, 131, 478, 258, 605};

    private Setting() {
    }

    /** Numbers that none can have if there are so many: beside the ends, and such as wrap round to a right one. */
    static int[] notBelow(int count) {
        return new int[] {NONE, -2, count, count + 1, 16, 30, 1 << 8, 1 << 16, LOWEST, LOWEST + 1, HIGHEST};
    }

    /** A new release of 1000 bytes, without a stage. */
    static int fresh(RollStages x, int channel) {
        return x.release(channel, false, 1000);
    }

    /** A release of 1000 bytes that rolls at its one stage, which waits a tick. */
    static int rolling(RollStages x, int channel, boolean security, int share) {
        int release = x.release(channel, security, 1000);
        x.stage(release, share, 1);
        x.start(release);
        return release;
    }

    static int full(RollStages x, int channel) {
        int release = rolling(x, channel, false, 1000);
        x.report(release, 1, 0);
        x.tick(1);
        return release;
    }

    /** A new object whose release 0 rolls at the first of so many stages, with a share of 10 at each. */
    static RollStages withWaits(int... waits) {
        RollStages x = new RollStages();
        fresh(x, 0);
        for (int wait : waits) {
            x.stage(0, 10, wait);
        }
        x.start(0);
        return x;
    }

    /** Gives the machine the release, though it may not get it; it has no pin afterwards. */
    static void give(RollStages x, int machine, int release) {
        x.pin(machine, release);
        x.update(machine);
        x.pin(machine, NONE);
    }

    static String about(RollStages x, int release) {
        StringBuilder text = new StringBuilder();
        for (int what = STATE; what <= REPORTS; what++) {
            text.append(what == 0 ? "" : " ").append(x.about(release, what));
        }
        return text.toString();
    }
}
