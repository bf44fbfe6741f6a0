/** Objects in which one machine comes up from a release to another one. */
final class Ways {
    private Ways() {
    }

    /** So many new releases of 1000 bytes; machine 0 has the first one, and a pin on the last one. */
    static RollStages fromFirstToLast(int releases) {
        return fromFirstToLast(releases, 1000);
    }

    static RollStages fromFirstToLast(int releases, int whole) {
        RollStages x = new RollStages();
        for (int i = 0; i < releases; i++) {
            x.release(0, false, whole);
        }
        x.machine(0, 0);
        Setting.give(x, 0, 0);
        x.pin(0, releases - 1);
        return x;
    }

    /** The machine's way: its cost, and by how many deltas. */
    static String way(RollStages x) {
        return x.cost(0) + " by " + x.steps(0);
    }
}
