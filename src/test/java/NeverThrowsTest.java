import java.util.Random;

/** No call throws, whatever its arguments, not even behind the 512th call of an object. */
public final class NeverThrowsTest {
    private static final int CALLS = 400000;
    private static final int[] ENDS = {
        Integer.MIN_VALUE, -2, -1, 0, 1, 2, 15, 16, 29, 30, 1000, 2000, 10000, 100000, Integer.MAX_VALUE};

    private static final Due DUE = new Due("NeverThrowsTest");
    private static final Random RANDOM = new Random(7);

    public static void main(String[] args) {
        RollStages x = new RollStages();
        for (int i = 0; i < CALLS; i++) {
            // Beyond the 512th call the answers are free; that they come is what is asked.
            DUE.text("an answer", answerOf(x));
        }
        DUE.end();
    }

    private static String answerOf(RollStages x) {
        try {
            callAny(x);
            return "an answer";
        } catch (RuntimeException e) {
            return e.toString();
        }
    }

    private static int any() {
        return RANDOM.nextInt(3) == 0 ? ENDS[RANDOM.nextInt(ENDS.length)] : RANDOM.nextInt(16);
    }

    private static void callAny(RollStages x) {
        int a = any();
        int b = any();
        int c = any();
        boolean flag = RANDOM.nextBoolean();
        switch (RANDOM.nextInt(20)) {
            case 0 -> x.release(a, flag, b);
            case 1 -> x.stage(a, b, c);
            case 2 -> x.health(a, b, c);
            case 3 -> x.start(a);
            case 4 -> x.report(a, b, c);
            case 5 -> x.hold(a, flag);
            case 6 -> x.revoke(a);
            case 7 -> x.tick(a);
            case 8 -> x.about(a, b);
            case 9 -> x.back(a, b);
            case 10 -> x.machine(a, b);
            case 11 -> x.row(a);
            case 12 -> x.pin(a, b);
            case 13 -> x.offered(a);
            case 14 -> x.may(a, b);
            case 15 -> x.delta(a, b, c);
            case 16 -> x.cost(a);
            case 17 -> x.steps(a);
            case 18 -> x.update(a);
            default -> x.has(a);
        }
    }
}
