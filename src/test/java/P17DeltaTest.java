/** Promise 17: delta. */
public final class P17DeltaTest {
    private static final Due DUE = new Due("Promise 17, delta");
    private static final int[] WRONG_SIZES = {0, -1, Setting.LOWEST, 1001, 1002, Setting.HIGHEST, 1 << 16};

    public static void main(String[] args) {
        leads();
        inPlaceOfOneThatLeadsSo();
        noneSuch();
        theyAreOne();
        sizes();
        theSizeIsntAsTold();
        forty();
        inPlaceOfOneOfForty();
        inPlaceIsNoMore();
        whateverTheStates();
        DUE.end();
    }

    private static void leads() {
        DUE.by("DELTAS lead from a RELEASE to another one");
        RollStages x = Ways.fromFirstToLast(3);
        DUE.yes(x.delta(0, 1, 10));
        DUE.text("1000 by 0", Ways.way(x));
        DUE.yes(x.delta(2, 0, 1));
        DUE.text("1000 by 0", Ways.way(x));
        DUE.yes(x.delta(1, 2, 20));
        DUE.text("30 by 2", Ways.way(x));
        DUE.yes(x.delta(0, 2, 25));
        DUE.text("25 by 1", Ways.way(x));
    }

    private static void inPlaceOfOneThatLeadsSo() {
        DUE.by("A DELTA, in place of one that leads so");
        RollStages x = Ways.fromFirstToLast(2);
        DUE.yes(x.delta(0, 1, 50));
        DUE.text("50 by 1", Ways.way(x));
        DUE.yes(x.delta(0, 1, 70));
        DUE.text("70 by 1", Ways.way(x));
        DUE.yes(x.delta(0, 1, 20));
        DUE.text("20 by 1", Ways.way(x));
        // The one that leads the other way is another one.
        DUE.yes(x.delta(1, 0, 999));
        DUE.text("20 by 1", Ways.way(x));
        x.update(0);
        x.pin(0, 0);
        DUE.text("999 by 1", Ways.way(x));
    }

    private static void noneSuch() {
        DUE.by("false if there are none such, they are one");
        Refused mixed = new Refused(DUE, Town::mixed);
        for (int wrong : Setting.notBelow(Town.RELEASES)) {
            mixed.no(x -> x.delta(wrong, Town.FULL, 1));
            mixed.no(x -> x.delta(Town.FRESH, wrong, 1));
            mixed.no(x -> x.delta(wrong, wrong, 1));
        }
        RollStages x = new RollStages();
        Setting.fresh(x, 0);
        for (int number = 1; number < 16; number++) {
            DUE.no(x.delta(0, number, 1));
            DUE.no(x.delta(number, 0, 1));
            Setting.fresh(x, 0);
            DUE.yes(x.delta(0, number, 1));
            DUE.yes(x.delta(number, 0, 1));
        }
        DUE.no(x.delta(15, 16, 1));
        DUE.no(x.delta(16, 15, 1));
        DUE.no(x.delta(0, -1, 1));
    }

    private static void theyAreOne() {
        DUE.by("they are one");
        Refused mixed = new Refused(DUE, Town::mixed);
        for (int release = 0; release < Town.RELEASES; release++) {
            int one = release;
            mixed.no(x -> x.delta(one, one, 1));
        }
        RollStages x = Ways.fromFirstToLast(2);
        DUE.no(x.delta(0, 0, 1));
        DUE.no(x.delta(1, 1, 1));
        DUE.text("1000 by 0", Ways.way(x));
    }

    private static void sizes() {
        DUE.by("with a size 1 .. 1000");
        RollStages x = Ways.fromFirstToLast(2, 1001);
        for (int wrong : WRONG_SIZES) {
            DUE.no(x.delta(0, 1, wrong));
        }
        DUE.text("1001 by 0", Ways.way(x));
        for (int right : new int[] {1, 2, 999, 1000}) {
            DUE.yes(x.delta(0, 1, right));
            DUE.text(right + " by 1", Ways.way(x));
            DUE.no(x.delta(0, 1, 0));
            DUE.no(x.delta(0, 1, 1001));
            DUE.text(right + " by 1", Ways.way(x));
        }
    }

    private static void theSizeIsntAsTold() {
        DUE.by("the size isn't as told");
        Refused mixed = new Refused(DUE, Town::mixed);
        Refused full = new Refused(DUE, Town::full);
        for (int wrong : WRONG_SIZES) {
            // Of a new pair, and of one whose delta has to stay.
            mixed.no(x -> x.delta(Town.FRESH, Town.ROLLING, wrong));
            mixed.no(x -> x.delta(Town.FRESH, Town.FULL, wrong));
            full.no(x -> x.delta(0, 1, wrong));
        }
    }

    private static void forty() {
        DUE.by("or there are 40");
        Refused full = new Refused(DUE, Town::full);
        full.no(x -> x.delta(1, 15, 1));
        full.no(x -> x.delta(15, 1, 1));
        full.no(x -> x.delta(0, 4, 1));
        full.no(x -> x.delta(3, 2, 1000));
        RollStages x = withDeltas(39);
        DUE.text("1000 by 0", Ways.way(x));
        DUE.yes(x.delta(0, 15, 30));
        DUE.text("30 by 1", Ways.way(x));
        // Neither the one that there is no room for, nor one that leads on from it.
        DUE.no(x.delta(0, 14, 1));
        DUE.no(x.delta(14, 15, 1));
        DUE.no(x.delta(15, 0, 1));
        DUE.text("30 by 1", Ways.way(x));
    }

    /** So many deltas, of 1000 each, none of which leads from the first release or from the last two. */
    private static RollStages withDeltas(int deltas) {
        RollStages x = Ways.fromFirstToLast(16);
        int made = 0;
        for (int from = 1; from < 14 && made < deltas; from++) {
            for (int to = 1; to < 16 && made < deltas; to++) {
                if (from != to) {
                    DUE.yes(x.delta(from, to, 1000));
                    made++;
                }
            }
        }
        return x;
    }

    /** There are no more of them when one takes another's place, so it isn't refused then. */
    private static void inPlaceOfOneOfForty() {
        DUE.by("at most 40, one for each pair");
        RollStages x = withDeltas(39);
        x.delta(0, 15, 30);
        DUE.yes(x.delta(0, 15, 20));
        DUE.text("20 by 1", Ways.way(x));
        DUE.yes(x.delta(0, 15, 40));
        DUE.text("40 by 1", Ways.way(x));
        // The first one of them too.
        DUE.yes(x.delta(1, 2, 7));
        DUE.no(x.delta(1, 2, 0));
        DUE.no(x.delta(0, 14, 1));
        Setting.give(x, 0, 1);
        x.pin(0, 2);
        DUE.text("7 by 1", Ways.way(x));
    }

    private static void inPlaceIsNoMore() {
        DUE.by("one for each pair");
        RollStages x = withDeltas(0);
        for (int i = 0; i < 60; i++) {
            DUE.yes(x.delta(0, 1, 100 + i));
        }
        for (int to = 2; to < 16; to++) {
            DUE.yes(x.delta(0, to, 1));
            DUE.yes(x.delta(1, to, 1));
        }
        for (int to = 3; to < 14; to++) {
            DUE.yes(x.delta(2, to, 1));
        }
        // 1, 14 times 2, and 11: the fortieth was the last one.
        DUE.no(x.delta(2, 14, 1));
    }

    private static void whateverTheStates() {
        DUE.by("DELTAS lead from a RELEASE to another one (with a size 1 .. 1000, at most 40, one for each pair)");
        RollStages x = Town.mixed();
        for (int release = 1; release < Town.RELEASES; release++) {
            DUE.yes(x.delta(Town.FRESH, release, 1));
            DUE.yes(x.delta(release, Town.FRESH, 1));
        }
    }
}
