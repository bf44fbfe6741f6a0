import java.util.ArrayList;
import java.util.HashMap;
import java.util.List;
import java.util.Map;

/**
 * The document's terms once more, written for plainness alone: ticks one by one,
 * every row of deltas tried. RollStages is compared with it call by call.
 */
final class PlainModel {
    private static final int NONE = -1;

    private static final class Release {
        int number;
        int channel;
        boolean security;
        int whole;
        List<int[]> stages = new ArrayList<>();
        int p = 1;
        int q = 1;
        String state = "NEW";
        int why;
        int stage;
        int ticksSince;
        long good;
        long bad;

        boolean is(String wanted) {
            return state.equals(wanted);
        }

        int share() {
            if (is("NEW") || is("REVOKED")) {
                return 0;
            }
            return is("FULL") ? 1000 : stages.get(stage)[0];
        }

        void roll(int at) {
            state = "ROLLING";
            why = 0;
            stage = at;
            ticksSince = 0;
            good = 0;
            bad = 0;
        }

        void hold(int reason) {
            state = "HELD";
            why = reason;
        }

        void tickOnce() {
            if (!is("ROLLING")) {
                return;
            }
            ticksSince++;
            if (ticksSince < stages.get(stage)[1]) {
                return;
            }
            if (good + bad == 0) {
                hold(1);
            } else if (bad * q > p * (good + bad)) {
                hold(2);
            } else if (stage == stages.size() - 1) {
                state = "FULL";
            } else {
                roll(stage + 1);
            }
        }
    }

    private static final class Machine {
        int channel;
        int ring;
        int row;
        int has = NONE;
        int pin = NONE;
    }

    private static final List<String> STATES = List.of("NEW", "ROLLING", "HELD", "FULL", "REVOKED");

    private final List<Release> releases = new ArrayList<>();
    private final List<Machine> machines = new ArrayList<>();
    private final Map<Integer, Integer> bounds = new HashMap<>();
    private final Map<List<Integer>, Integer> deltas = new HashMap<>();
    private int clock;
    private int bestSize;
    private int bestSteps;

    private static boolean in(int value, int least, int most) {
        return value >= least && value <= most;
    }

    private boolean isRelease(int number) {
        return number >= 0 && number < releases.size();
    }

    private boolean isMachine(int number) {
        return number >= 0 && number < machines.size();
    }

    int release(int channel, boolean security, int whole) {
        if (releases.size() == 16 || !in(channel, 0, 2) || !in(whole, 1, 100000)) {
            return NONE;
        }
        Release r = new Release();
        r.number = releases.size();
        r.channel = channel;
        r.security = security;
        r.whole = whole;
        releases.add(r);
        return r.number;
    }

    boolean stage(int release, int share, int wait) {
        if (!isRelease(release)) {
            return false;
        }
        Release r = releases.get(release);
        if (!r.is("NEW") || r.stages.size() == 5 || !in(share, 0, 1000) || !in(wait, 0, 1000)) {
            return false;
        }
        for (int[] before : r.stages) {
            if (share < before[0]) {
                return false;
            }
        }
        return r.stages.add(new int[] {share, wait});
    }

    boolean health(int release, int p, int q) {
        if (!isRelease(release) || !in(q, 1, 1000) || !in(p, 0, q)) {
            return false;
        }
        releases.get(release).p = p;
        releases.get(release).q = q;
        return true;
    }

    boolean start(int release) {
        if (!isRelease(release) || !releases.get(release).is("NEW") || releases.get(release).stages.isEmpty()) {
            return false;
        }
        releases.get(release).roll(0);
        return true;
    }

    boolean report(int release, int good, int bad) {
        if (!isRelease(release) || !in(good, 0, 10000) || !in(bad, 0, 10000)) {
            return false;
        }
        Release r = releases.get(release);
        if (!r.is("ROLLING")) {
            return false;
        }
        r.good += good;
        r.bad += bad;
        return true;
    }

    boolean hold(int release, boolean on) {
        if (!isRelease(release) || !releases.get(release).is(on ? "ROLLING" : "HELD")) {
            return false;
        }
        Release r = releases.get(release);
        if (on) {
            r.hold(3);
        } else {
            r.roll(r.stage);
        }
        return true;
    }

    boolean revoke(int release) {
        if (!isRelease(release) || releases.get(release).is("REVOKED")) {
            return false;
        }
        releases.get(release).state = "REVOKED";
        return true;
    }

    int tick(int n) {
        if (!in(n, 0, 2000)) {
            return NONE;
        }
        for (int i = 0; i < n; i++) {
            clock++;
            for (Release r : releases) {
                r.tickOnce();
            }
        }
        return clock;
    }

    int about(int release, int what) {
        if (!isRelease(release)) {
            return NONE;
        }
        Release r = releases.get(release);
        return switch (what) {
            case 0 -> STATES.indexOf(r.state);
            case 1 -> r.is("NEW") || r.is("FULL") || r.is("REVOKED") ? NONE : r.stage;
            case 2 -> r.is("HELD") ? r.why : 0;
            case 3 -> r.share();
            case 4 -> (int) (r.good + r.bad);
            default -> NONE;
        };
    }

    boolean back(int channel, int release) {
        if (!in(channel, 0, 2)) {
            return false;
        }
        if (release == NONE) {
            bounds.remove(channel);
            return true;
        }
        if (!isRelease(release) || releases.get(release).channel != channel) {
            return false;
        }
        bounds.put(channel, release);
        return true;
    }

    int machine(int channel, int ring) {
        if (machines.size() == 30 || !in(channel, 0, 2) || !in(ring, 0, 3)) {
            return NONE;
        }
        Machine m = new Machine();
        m.channel = channel;
        m.ring = ring;
        m.row = Integer.divideUnsigned((machines.size() + 1) * (int) 2654435761L, 128) % 1000;
        machines.add(m);
        return machines.size() - 1;
    }

    int row(int machine) {
        return isMachine(machine) ? machines.get(machine).row : NONE;
    }

    boolean pin(int machine, int release) {
        if (!isMachine(machine) || release != NONE && !isRelease(release)) {
            return false;
        }
        machines.get(machine).pin = release;
        return true;
    }

    private boolean inBound(Release r) {
        return !bounds.containsKey(r.channel) || r.number <= bounds.get(r.channel);
    }

    boolean may(int machine, int release) {
        if (!isMachine(machine) || !isRelease(release)) {
            return false;
        }
        Machine m = machines.get(machine);
        Release r = releases.get(release);
        if (r.channel != m.channel || !inBound(r)) {
            return false;
        }
        if (r.security && (r.is("ROLLING") || r.is("FULL") || r.is("HELD") && r.why == 3)) {
            return true;
        }
        return m.row < r.share() && (r.is("FULL") || r.stage >= m.ring);
    }

    int offered(int machine) {
        if (!isMachine(machine)) {
            return NONE;
        }
        Machine m = machines.get(machine);
        if (m.pin != NONE && !releases.get(m.pin).is("REVOKED")) {
            return m.pin;
        }
        int offer = NONE;
        for (Release r : releases) {
            if (may(machine, r.number)) {
                offer = r.number;
            }
        }
        if (m.has == NONE || m.has < offer) {
            return offer;
        }
        Release own = releases.get(m.has);
        boolean stays = own.channel == m.channel && !own.is("REVOKED") && inBound(own);
        return stays ? m.has : offer;
    }

    boolean delta(int from, int to, int size) {
        if (!isRelease(from) || !isRelease(to) || from == to || !in(size, 1, 1000)) {
            return false;
        }
        if (deltas.size() == 40 && !deltas.containsKey(List.of(from, to))) {
            return false;
        }
        deltas.put(List.of(from, to), size);
        return true;
    }

    private void walk(int at, int goal, int size, int steps) {
        if (at == goal) {
            if (size < bestSize || size == bestSize && steps < bestSteps) {
                bestSize = size;
                bestSteps = steps;
            }
            return;
        }
        if (steps == 4 || steps > 0 && releases.get(at).is("REVOKED")) {
            return;
        }
        for (Map.Entry<List<Integer>, Integer> one : deltas.entrySet()) {
            if (one.getKey().get(0) == at) {
                walk(one.getKey().get(1), goal, size + one.getValue(), steps + 1);
            }
        }
    }

    private void findWay(int machine) {
        Machine m = machines.get(machine);
        int offer = offered(machine);
        bestSize = 0;
        bestSteps = 0;
        if (offer == NONE || offer == m.has) {
            return;
        }
        bestSize = releases.get(offer).whole;
        if (m.has != NONE) {
            walk(m.has, offer, 0, 0);
        }
    }

    int cost(int machine) {
        if (!isMachine(machine)) {
            return NONE;
        }
        findWay(machine);
        return bestSize;
    }

    int steps(int machine) {
        if (!isMachine(machine)) {
            return NONE;
        }
        findWay(machine);
        return bestSteps;
    }

    int update(int machine) {
        int offer = offered(machine);
        if (offer != NONE) {
            machines.get(machine).has = offer;
        }
        return offer;
    }

    int has(int machine) {
        return isMachine(machine) ? machines.get(machine).has : NONE;
    }
}
