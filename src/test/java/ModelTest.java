import java.util.Random;

/** Runs of calls drawn by fixed seeds: each answer is the plain model's. */
public final class ModelTest {
    private static final int RUNS = 3000;
    private static final int CALLS = 512;
    private static final int METHODS = 20;
    private static final int MAKING = 60;

    private static final Due DUE = new Due("ModelTest");

    private final Random random;
    private final RollStages real = new RollStages();
    private final PlainModel model = new PlainModel();
    private final int seed;

    private ModelTest(int seed) {
        this.seed = seed;
        this.random = new Random(seed);
    }

    public static void main(String[] args) {
        for (int seed = 0; seed < RUNS; seed++) {
            new ModelTest(seed).run();
        }
        DUE.end();
    }

    private void run() {
        for (int i = 0; i < CALLS; i++) {
            // Runs begin by making what the later calls speak of, and some speak of deltas above all.
            int method = i < MAKING ? pick(0, 1, 2, 10, 15) : random.nextInt(METHODS);
            if (seed % 4 == 0 && random.nextInt(3) == 0) {
                method = pick(12, 15, 16, 17, 18);
            }
            call(i, method);
        }
    }

    private int pick(int... values) {
        return values[random.nextInt(values.length)];
    }

    /** Mostly a number of the range, now and then one at or beyond its ends. */
    private int number(int least, int most) {
        if (random.nextInt(12) == 0) {
            return pick(least - 1, least, most, most + 1, Integer.MIN_VALUE, Integer.MAX_VALUE);
        }
        return least + random.nextInt(most - least + 1);
    }

    private int anyRelease() {
        return number(0, seed % 3 == 0 ? 4 : 15);
    }

    private int releaseOrNone() {
        return random.nextInt(4) == 0 ? -1 : anyRelease();
    }

    private int anyMachine() {
        return number(0, seed % 3 == 0 ? 5 : 29);
    }

    private int size() {
        return random.nextBoolean() ? number(1, 12) : number(1, 1000);
    }

    private int ticks() {
        return random.nextInt(3) == 0 ? number(0, 2000) : number(0, 5);
    }

    private void call(int i, int method) {
        if (method < 10) {
            callOfReleases(i, method);
        } else {
            callOfMachines(i, method);
        }
    }

    private void callOfReleases(int i, int method) {
        int r = anyRelease();
        boolean flag = random.nextBoolean();
        int a;
        int b;
        switch (method) {
            case 0 -> {
                a = number(0, 2);
                b = random.nextBoolean() ? number(1, 40) : number(1, 100000);
                same(i, "release(" + a + ", " + flag + ", " + b + ")", model.release(a, flag, b), real.release(a, flag, b));
            }
            case 1 -> {
                a = random.nextBoolean() ? number(0, 1000) : number(700, 1000);
                b = random.nextBoolean() ? number(0, 3) : number(0, 1000);
                same(i, "stage(" + r + ", " + a + ", " + b + ")", model.stage(r, a, b), real.stage(r, a, b));
            }
            case 2 -> {
                b = random.nextBoolean() ? number(1, 4) : number(1, 1000);
                a = number(0, Math.max(0, Math.min(b, 1000)));
                same(i, "health(" + r + ", " + a + ", " + b + ")", model.health(r, a, b), real.health(r, a, b));
            }
            case 3 -> same(i, "start(" + r + ")", model.start(r), real.start(r));
            case 4 -> {
                a = random.nextBoolean() ? number(0, 5) : number(0, 10000);
                b = random.nextBoolean() ? number(0, 2) : number(0, 10000);
                same(i, "report(" + r + ", " + a + ", " + b + ")", model.report(r, a, b), real.report(r, a, b));
            }
            case 5 -> same(i, "hold(" + r + ", " + flag + ")", model.hold(r, flag), real.hold(r, flag));
            case 6 -> {
                // Seldom, or all would soon be revoked.
                if (random.nextInt(6) == 0) {
                    same(i, "revoke(" + r + ")", model.revoke(r), real.revoke(r));
                }
            }
            case 7 -> {
                a = ticks();
                same(i, "tick(" + a + ")", model.tick(a), real.tick(a));
            }
            case 8 -> {
                a = number(0, 4);
                same(i, "about(" + r + ", " + a + ")", model.about(r, a), real.about(r, a));
            }
            default -> {
                a = number(0, 2);
                b = releaseOrNone();
                same(i, "back(" + a + ", " + b + ")", model.back(a, b), real.back(a, b));
            }
        }
    }

    private void callOfMachines(int i, int method) {
        int m = anyMachine();
        int a;
        int b;
        switch (method) {
            case 10 -> {
                a = number(0, 2);
                b = number(0, 3);
                same(i, "machine(" + a + ", " + b + ")", model.machine(a, b), real.machine(a, b));
            }
            case 11 -> same(i, "row(" + m + ")", model.row(m), real.row(m));
            case 12 -> {
                a = releaseOrNone();
                same(i, "pin(" + m + ", " + a + ")", model.pin(m, a), real.pin(m, a));
            }
            case 13 -> same(i, "offered(" + m + ")", model.offered(m), real.offered(m));
            case 14 -> {
                a = anyRelease();
                same(i, "may(" + m + ", " + a + ")", model.may(m, a), real.may(m, a));
            }
            case 15 -> {
                a = anyRelease();
                b = anyRelease();
                int size = size();
                same(i, "delta(" + a + ", " + b + ", " + size + ")", model.delta(a, b, size), real.delta(a, b, size));
            }
            case 16 -> same(i, "cost(" + m + ")", model.cost(m), real.cost(m));
            case 17 -> same(i, "steps(" + m + ")", model.steps(m), real.steps(m));
            case 18 -> same(i, "update(" + m + ")", model.update(m), real.update(m));
            default -> same(i, "has(" + m + ")", model.has(m), real.has(m));
        }
    }

    private void same(int i, String call, boolean want, boolean got) {
        same(i, call, want ? 1 : 0, got ? 1 : 0);
    }

    private void same(int i, String call, int want, int got) {
        String where = "seed " + seed + ", call " + i + ": " + call + " ";
        DUE.text(where + want, where + got);
    }
}
