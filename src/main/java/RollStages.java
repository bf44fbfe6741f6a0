import java.util.Arrays;

/**
 * Releases that are rolled out to machines by stages.
 * What each call answers is told by the numbered promises of the document, DOC.md.
 */
public final class RollStages {
    public static final int NONE = -1;

    private static final int CHANNELS = 3;
    private static final int RINGS = 4;
    private static final int MOST_RELEASES = 16;
    private static final int MOST_STAGES = 5;
    private static final int MOST_MACHINES = 30;
    private static final int MOST_DELTAS = 40;
    private static final int MOST_STEPS = 4;
    private static final int MOST_BYTES = 100000;
    private static final int MOST_WAIT = 1000;
    private static final int MOST_OF_HEALTH = 1000;
    private static final int MOST_REPORTS = 10000;
    private static final int MOST_TICKS = 2000;
    private static final int MOST_DELTA_SIZE = 1000;
    private static final int FULL_SHARE = 1000;

    private static final int NEW = 0;
    private static final int ROLLING = 1;
    private static final int HELD = 2;
    private static final int FULL = 3;
    private static final int REVOKED = 4;

    private static final int NOT_HELD = 0;
    private static final int WANT_OF_REPORTS = 1;
    private static final int BAD_HEALTH = 2;
    private static final int BY_HAND = 3;

    private static final long ROW_FACTOR = 2654435761L;
    private static final long LOW_32_BITS = 0xFFFFFFFFL;
    private static final int ROW_SHIFT = 7;
    private static final int ROWS = 1000;

    private static final int FAR = 0x7FFFFFFF;

    private final Release[] releases = new Release[MOST_RELEASES];
    private final Machine[] machines = new Machine[MOST_MACHINES];
    private final int[] bounds = new int[CHANNELS];
    private final Deltas deltas = new Deltas();
    private int releaseCount;
    private int machineCount;
    private int clock;

    public RollStages() {
        Arrays.fill(bounds, NONE);
    }

    public int release(int channel, boolean security, int whole) {
        if (releaseCount >= MOST_RELEASES || !isChannel(channel) || !within(whole, 1, MOST_BYTES)) {
            return NONE;
        }
        releases[releaseCount] = new Release(channel, security, whole);
        releaseCount++;
        return releaseCount - 1;
    }

    public boolean stage(int release, int share, int wait) {
        Release r = releaseAt(release);
        return r != null && r.addStage(share, wait);
    }

    public boolean health(int release, int p, int q) {
        Release r = releaseAt(release);
        return r != null && r.setHealth(p, q);
    }

    public boolean start(int release) {
        Release r = releaseAt(release);
        return r != null && r.begin(clock);
    }

    public boolean report(int release, int good, int bad) {
        Release r = releaseAt(release);
        return r != null && r.addReports(good, bad);
    }

    public boolean hold(int release, boolean on) {
        Release r = releaseAt(release);
        if (r == null) {
            return false;
        }
        return on ? r.holdByHand() : r.goOn(clock);
    }

    public boolean revoke(int release) {
        Release r = releaseAt(release);
        return r != null && r.bar();
    }

    public int tick(int n) {
        if (!within(n, 0, MOST_TICKS)) {
            return NONE;
        }
        int end = clock + n;
        // No release looks at another one, so each can go through all the ticks alone.
        for (int i = 0; i < releaseCount; i++) {
            Release r = releaseAt(i);
            if (r != null) {
                r.passTicks(clock, end);
            }
        }
        clock = end;
        return clock;
    }

    public int about(int release, int what) {
        Release r = releaseAt(release);
        if (r == null) {
            return NONE;
        }
        switch (what) {
            case 0:
                return r.state;
            case 1:
                return r.stageNow();
            case 2:
                return r.why;
            case 3:
                return r.shareNow();
            case 4:
                return r.allReports();
            default:
                return NONE;
        }
    }

    public boolean back(int channel, int release) {
        if (!isChannel(channel)) {
            return false;
        }
        if (release != NONE) {
            Release r = releaseAt(release);
            if (r == null || r.channel != channel) {
                return false;
            }
        }
        bounds[channel] = release;
        return true;
    }

    public int machine(int channel, int ring) {
        if (machineCount >= MOST_MACHINES || !isChannel(channel) || !within(ring, 0, RINGS - 1)) {
            return NONE;
        }
        machines[machineCount] = new Machine(channel, ring, rowOf(machineCount));
        machineCount++;
        return machineCount - 1;
    }

    public int row(int machine) {
        Machine m = machineAt(machine);
        return m == null ? NONE : m.row;
    }

    public boolean pin(int machine, int release) {
        Machine m = machineAt(machine);
        if (m == null || release != NONE && releaseAt(release) == null) {
            return false;
        }
        m.pin = release;
        return true;
    }

    public int offered(int machine) {
        Machine m = machineAt(machine);
        return m == null ? NONE : offerTo(m);
    }

    public boolean may(int machine, int release) {
        Machine m = machineAt(machine);
        return m != null && mayGet(m, release);
    }

    public boolean delta(int from, int to, int size) {
        if (releaseAt(from) == null || releaseAt(to) == null || from == to) {
            return false;
        }
        return within(size, 1, MOST_DELTA_SIZE) && deltas.put(from, to, size);
    }

    public int cost(int machine) {
        Machine m = machineAt(machine);
        if (m == null) {
            return NONE;
        }
        findWay(m);
        return deltas.waySize;
    }

    public int steps(int machine) {
        Machine m = machineAt(machine);
        if (m == null) {
            return NONE;
        }
        findWay(m);
        return deltas.waySteps;
    }

    public int update(int machine) {
        Machine m = machineAt(machine);
        if (m == null) {
            return NONE;
        }
        int offer = offerTo(m);
        if (offer != NONE) {
            m.has = offer;
        }
        return offer;
    }

    public int has(int machine) {
        Machine m = machineAt(machine);
        return m == null ? NONE : m.has;
    }

    private static boolean within(int value, int least, int most) {
        return value >= least && value <= most;
    }

    private static boolean isChannel(int channel) {
        return within(channel, 0, CHANNELS - 1);
    }

    private static int rowOf(int machine) {
        long mixed = (machine + 1) * ROW_FACTOR & LOW_32_BITS;
        return (int) ((mixed >> ROW_SHIFT) % ROWS);
    }

    private Release releaseAt(int number) {
        return within(number, 0, MOST_RELEASES - 1) ? releases[number] : null;
    }

    private Machine machineAt(int number) {
        return within(number, 0, MOST_MACHINES - 1) ? machines[number] : null;
    }

    private int offerTo(Machine m) {
        Release pinned = releaseAt(m.pin);
        if (pinned != null && pinned.state != REVOKED) {
            return m.pin;
        }
        int newest = newestFor(m);
        // NONE is below every number, so what a machine has also stays if it may get nothing.
        return m.has > newest && mayKeep(m) ? m.has : newest;
    }

    private int newestFor(Machine m) {
        for (int i = releaseCount - 1; i >= 0; i--) {
            if (mayGet(m, i)) {
                return i;
            }
        }
        return NONE;
    }

    private boolean mayGet(Machine m, int number) {
        Release r = releaseAt(number);
        if (r == null || !isOpenTo(m, r, number)) {
            return false;
        }
        return r.isForced() || m.row < r.shareNow() && r.reachesRing(m.ring);
    }

    private boolean mayKeep(Machine m) {
        Release r = releaseAt(m.has);
        return r != null && r.state != REVOKED && isOpenTo(m, r, m.has);
    }

    private boolean isOpenTo(Machine m, Release r, int number) {
        if (r.channel != m.channel || !within(m.channel, 0, bounds.length - 1)) {
            return false;
        }
        int bound = bounds[m.channel];
        return bound == NONE || number <= bound;
    }

    private void findWay(Machine m) {
        int offer = offerTo(m);
        Release goal = releaseAt(offer);
        if (goal == null || offer == m.has) {
            deltas.setWay(0, 0);
            return;
        }
        deltas.setWay(goal.whole, 0);
        if (m.has != NONE) {
            deltas.searchCheaper(m.has, offer, releases);
        }
    }

    private static final class Release {
        private final int channel;
        private final boolean security;
        private final int whole;
        private final int[] shares = new int[MOST_STAGES];
        private final int[] waits = new int[MOST_STAGES];
        private int stageCount;
        private int mostBad = 1;
        private int ofReports = 1;
        private int state = NEW;
        private int why = NOT_HELD;
        private int stageIndex;
        private int waitBegan;
        private int goodReports;
        private int badReports;

        private Release(int channel, boolean security, int whole) {
            this.channel = channel;
            this.security = security;
            this.whole = whole;
        }

        private boolean addStage(int share, int wait) {
            if (state != NEW || stageCount >= MOST_STAGES) {
                return false;
            }
            int leastShare = stageCount == 0 ? 0 : shares[stageCount - 1];
            if (!within(share, leastShare, FULL_SHARE) || !within(wait, 0, MOST_WAIT)) {
                return false;
            }
            shares[stageCount] = share;
            waits[stageCount] = wait;
            stageCount++;
            return true;
        }

        private boolean setHealth(int p, int q) {
            if (!within(q, 1, MOST_OF_HEALTH) || !within(p, 0, q)) {
                return false;
            }
            mostBad = p;
            ofReports = q;
            return true;
        }

        private boolean begin(int now) {
            if (state != NEW || stageCount == 0) {
                return false;
            }
            rollAt(0, now);
            return true;
        }

        private boolean addReports(int good, int bad) {
            if (state != ROLLING || !within(good, 0, MOST_REPORTS) || !within(bad, 0, MOST_REPORTS)) {
                return false;
            }
            goodReports += good;
            badReports += bad;
            return true;
        }

        private boolean holdByHand() {
            if (state != ROLLING) {
                return false;
            }
            holdFor(BY_HAND);
            return true;
        }

        private boolean goOn(int now) {
            if (state != HELD) {
                return false;
            }
            rollAt(stageIndex, now);
            return true;
        }

        private boolean bar() {
            if (state == REVOKED) {
                return false;
            }
            state = REVOKED;
            why = NOT_HELD;
            return true;
        }

        /** Goes through the ticks after now up to end, from one end of a wait to the next. */
        private void passTicks(int now, int end) {
            int at = now;
            // Each turn leaves a stage or the rolling itself, so there are no more turns than stages.
            for (int turn = 0; turn < MOST_STAGES && state == ROLLING; turn++) {
                // A wait that is over already is looked at by the next tick, never twice by one.
                at = Math.max(at + 1, waitBegan + valueOfStage(waits));
                if (at > end) {
                    return;
                }
                judge(at);
            }
        }

        private void judge(int now) {
            if (allReports() == 0) {
                holdFor(WANT_OF_REPORTS);
            } else if (isTooBad()) {
                holdFor(BAD_HEALTH);
            } else if (stageIndex + 1 < stageCount) {
                rollAt(stageIndex + 1, now);
            } else {
                state = FULL;
            }
        }

        private boolean isTooBad() {
            // In long: the reports of 512 calls times 1000 don't fit an int.
            return (long) badReports * ofReports > (long) mostBad * allReports();
        }

        private void rollAt(int index, int now) {
            state = ROLLING;
            why = NOT_HELD;
            stageIndex = index;
            waitBegan = now;
            goodReports = 0;
            badReports = 0;
        }

        private void holdFor(int reason) {
            state = HELD;
            why = reason;
        }

        private boolean isAtStage() {
            return state == ROLLING || state == HELD;
        }

        private int stageNow() {
            return isAtStage() ? stageIndex : NONE;
        }

        private int shareNow() {
            if (state == FULL) {
                return FULL_SHARE;
            }
            return isAtStage() ? valueOfStage(shares) : 0;
        }

        private int valueOfStage(int[] values) {
            return stageIndex >= 0 && stageIndex < values.length ? values[stageIndex] : 0;
        }

        private int allReports() {
            return goodReports + badReports;
        }

        /** Whether it goes to every machine of its channel, whatever their rows and rings. */
        private boolean isForced() {
            return security && (state == ROLLING || state == FULL || why == BY_HAND);
        }

        private boolean reachesRing(int ring) {
            return state == FULL || isAtStage() && stageIndex >= ring;
        }
    }

    private static final class Machine {
        private final int channel;
        private final int ring;
        private final int row;
        private int has = NONE;
        private int pin = NONE;

        private Machine(int channel, int ring, int row) {
            this.channel = channel;
            this.ring = ring;
            this.row = row;
        }
    }

    /** The deltas, and the way that was last searched among them. */
    private static final class Deltas {
        private final int[] froms = new int[MOST_DELTAS];
        private final int[] tos = new int[MOST_DELTAS];
        private final int[] sizes = new int[MOST_DELTAS];
        private int count;
        // Made once, for every search, since what all calls make is counted.
        private final int[] reached = new int[MOST_RELEASES];
        private final int[] next = new int[MOST_RELEASES];
        private int waySize;
        private int waySteps;

        private boolean put(int from, int to, int size) {
            int place = placeOf(from, to);
            // One that takes another's place makes them no more, so only a new one can be too many.
            if (!within(place, 0, MOST_DELTAS - 1)) {
                return false;
            }
            froms[place] = from;
            tos[place] = to;
            sizes[place] = size;
            count = Math.max(count, place + 1);
            return true;
        }

        /** The place of the delta that leads so, or the one behind the last delta. */
        private int placeOf(int from, int to) {
            for (int i = 0; i < count; i++) {
                if (froms[i] == from && tos[i] == to) {
                    return i;
                }
            }
            return count;
        }

        private void setWay(int size, int steps) {
            waySize = size;
            waySteps = steps;
        }

        /** Puts the cheapest row of deltas in the way's place, if it is cheaper than that. */
        private void searchCheaper(int start, int goal, Release[] releases) {
            Arrays.fill(reached, FAR);
            lower(reached, start, 0);
            for (int steps = 1; steps <= MOST_STEPS; steps++) {
                takeOneMore();
                int size = sizeAt(next, goal);
                // Strictly, so that of equal ones the one with fewer deltas stays.
                if (size < waySize) {
                    setWay(size, steps);
                }
                System.arraycopy(next, 0, reached, 0, MOST_RELEASES);
                // Only behind the first delta: a machine may leave a revoked release.
                dropRevoked(releases);
            }
        }

        private void takeOneMore() {
            Arrays.fill(next, FAR);
            for (int i = 0; i < count; i++) {
                int size = sizeAt(reached, froms[i]);
                if (size != FAR) {
                    lower(next, tos[i], size + sizes[i]);
                }
            }
        }

        private void dropRevoked(Release[] releases) {
            for (int i = 0; i < releases.length && i < MOST_RELEASES; i++) {
                Release r = releases[i];
                if (r != null && r.state == REVOKED) {
                    reached[i] = FAR;
                }
            }
        }

        private static int sizeAt(int[] row, int index) {
            return within(index, 0, row.length - 1) ? row[index] : FAR;
        }

        private static void lower(int[] row, int index, int size) {
            if (within(index, 0, row.length - 1) && size < row[index]) {
                row[index] = size;
            }
        }
    }
}
