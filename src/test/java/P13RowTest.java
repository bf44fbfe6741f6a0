import java.math.BigInteger;

/** Promise 13: row. */
public final class P13RowTest {
    private static final Due DUE = new Due("Promise 13, row");

    public static void main(String[] args) {
        byTheFormula();
        ofAThousand();
        whateverTheChannelAndRing();
        noneSuch();
        DUE.end();
    }

    /** Without any wrap-around of its own. */
    private static int rowBy(int machine) {
        BigInteger product = BigInteger.valueOf(machine + 1).multiply(new BigInteger("2654435761"));
        return product.mod(BigInteger.TWO.pow(32)).shiftRight(7).mod(BigInteger.valueOf(1000)).intValueExact();
    }

    private static void byTheFormula() {
        DUE.by("m + 1 times 2654435761, modulo 2 to the 32, shifted right by 7, modulo 1000");
        RollStages x = new RollStages();
        for (int machine = 0; machine < 30; machine++) {
            x.machine(0, 0);
            DUE.is(Setting.ROWS[machine], x.row(machine));
            DUE.is(rowBy(machine), x.row(machine));
        }
    }

    private static void ofAThousand() {
        DUE.by("a ROW (0 .. 999)");
        RollStages x = new RollStages();
        for (int machine = 0; machine < 30; machine++) {
            x.machine(0, 0);
            DUE.yes(x.row(machine) >= 0 && x.row(machine) <= 999);
        }
    }

    private static void whateverTheChannelAndRing() {
        DUE.by("ROW of the machine with number m");
        RollStages x = new RollStages();
        for (int machine = 0; machine < 30; machine++) {
            x.machine(2 - machine % 3, 3 - machine % 4);
            DUE.is(Setting.ROWS[machine], x.row(machine));
        }
        Setting.full(x, 2);
        x.update(0);
        DUE.is(779, x.row(0));
        DUE.is(605, x.row(29));
    }

    private static void noneSuch() {
        DUE.by("ROW of a MACHINE; NONE if there is none such");
        RollStages x = Town.mixed();
        for (int wrong : Setting.notBelow(Town.MACHINES)) {
            DUE.is(-1, x.row(wrong));
        }
        RollStages y = new RollStages();
        for (int number = 0; number < 30; number++) {
            DUE.is(-1, y.row(number));
            y.machine(0, 0);
            DUE.is(Setting.ROWS[number], y.row(number));
        }
        DUE.is(-1, y.row(30));
        new Refused(DUE, Town::mixed).none(z -> z.row(Town.MACHINES));
    }
}
