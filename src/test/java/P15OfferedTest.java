/** Promise 15: offered. */
public final class P15OfferedTest {
    private static final Due DUE = new Due("Promise 15, offered");

    public static void main(String[] args) {
        itsPin();
        pinThatIsRevoked();
        pinBeforeWhatItHas();
        theGreatestItMayGet();
        noneIfThereIsNone();
        hasOneThatIsGreater();
        greaterThanNothing();
        ofItsChannel();
        hasARevokedOne();
        notAboveTheBound();
        noneSuch();
        asksChangeNothing();
        DUE.end();
    }

    private static void itsPin() {
        DUE.by("What is OFFERED to a MACHINE: its PIN");
        RollStages x = new RollStages();
        x.machine(0, 3);
        Setting.full(x, 0);
        Setting.full(x, 0);
        int other = Setting.fresh(x, 2);
        DUE.is(1, x.offered(0));
        x.pin(0, 0);
        DUE.is(0, x.offered(0));
        x.pin(0, other);
        DUE.is(other, x.offered(0));
        // Above the bound, too.
        x.back(0, 0);
        x.pin(0, 1);
        DUE.is(1, x.offered(0));
    }

    private static void pinThatIsRevoked() {
        DUE.by("its PIN, if that isn't REVOKED; else the greatest RELEASE it may get");
        RollStages x = new RollStages();
        x.machine(0, 0);
        Setting.full(x, 0);
        Setting.full(x, 0);
        Setting.fresh(x, 0);
        x.pin(0, 2);
        DUE.is(2, x.offered(0));
        x.revoke(2);
        DUE.is(1, x.offered(0));
        x.revoke(1);
        DUE.is(0, x.offered(0));
        x.revoke(0);
        DUE.is(-1, x.offered(0));
    }

    private static void pinBeforeWhatItHas() {
        DUE.by("that stays OFFERED instead (but for a PIN)");
        RollStages x = new RollStages();
        x.machine(0, 0);
        Setting.full(x, 0);
        Setting.full(x, 0);
        Setting.fresh(x, 0);
        Setting.give(x, 0, 2);
        DUE.is(2, x.offered(0));
        x.pin(0, 0);
        DUE.is(0, x.offered(0));
        // A revoked pin is no pin here either.
        x.revoke(0);
        DUE.is(2, x.offered(0));
    }

    private static void theGreatestItMayGet() {
        DUE.by("else the greatest RELEASE it may get");
        RollStages x = new RollStages();
        x.machine(0, 0);
        for (int release = 0; release < 16; release++) {
            DUE.is(release - 1, x.offered(0));
            Setting.full(x, 0);
        }
        DUE.is(15, x.offered(0));
        RollStages y = new RollStages();
        y.machine(0, 0);
        Setting.full(y, 0);
        Setting.full(y, 1);
        DUE.is(0, y.offered(0));
        Setting.rolling(y, 0, false, 779);
        DUE.is(0, y.offered(0));
        Setting.rolling(y, 0, false, 780);
        DUE.is(3, y.offered(0));
        Setting.fresh(y, 0);
        DUE.is(3, y.offered(0));
    }

    private static void noneIfThereIsNone() {
        DUE.by("NONE if there is none.");
        RollStages x = new RollStages();
        x.machine(0, 0);
        DUE.is(-1, x.offered(0));
        Setting.fresh(x, 0);
        DUE.is(-1, x.offered(0));
        Setting.full(x, 1);
        DUE.is(-1, x.offered(0));
        Setting.rolling(x, 0, false, 779);
        DUE.is(-1, x.offered(0));
        Setting.full(x, 0);
        DUE.is(3, x.offered(0));
        x.back(0, 2);
        DUE.is(-1, x.offered(0));
    }

    private static void hasOneThatIsGreater() {
        DUE.by("But if it HAS one that is greater");
        for (int has = 0; has < 5; has++) {
            RollStages x = new RollStages();
            x.machine(0, 0);
            Setting.fresh(x, 0);
            Setting.fresh(x, 0);
            Setting.full(x, 0);
            Setting.fresh(x, 0);
            Setting.fresh(x, 0);
            Setting.give(x, 0, has);
            DUE.is(has, x.has(0));
            DUE.is(Math.max(2, has), x.offered(0));
        }
    }

    /** Every number is greater than none, so what it has stays if it may get nothing. */
    private static void greaterThanNothing() {
        DUE.by("that stays OFFERED instead");
        RollStages x = new RollStages();
        x.machine(0, 0);
        Setting.fresh(x, 0);
        Setting.give(x, 0, 0);
        DUE.no(x.may(0, 0));
        DUE.is(0, x.offered(0));
        DUE.is(0, x.update(0));
    }

    private static void ofItsChannel() {
        DUE.by("But if it HAS one that is greater, of its CHANNEL");
        RollStages x = new RollStages();
        x.machine(0, 0);
        Setting.full(x, 0);
        int other = Setting.full(x, 1);
        int own = Setting.fresh(x, 0);
        Setting.give(x, 0, other);
        DUE.is(other, x.has(0));
        DUE.is(0, x.offered(0));
        Setting.give(x, 0, own);
        DUE.is(own, x.offered(0));
        x.revoke(0);
        Setting.give(x, 0, other);
        DUE.is(-1, x.offered(0));
    }

    private static void hasARevokedOne() {
        DUE.by("of its CHANNEL, not REVOKED");
        RollStages x = new RollStages();
        x.machine(0, 0);
        Setting.full(x, 0);
        Setting.full(x, 0);
        x.update(0);
        DUE.is(1, x.offered(0));
        x.revoke(1);
        DUE.is(0, x.offered(0));
        DUE.is(1, x.has(0));
        x.revoke(0);
        DUE.is(-1, x.offered(0));
        DUE.is(1, x.has(0));
    }

    private static void notAboveTheBound() {
        DUE.by("not REVOKED, and not above the BOUND");
        RollStages x = new RollStages();
        x.machine(0, 0);
        Setting.full(x, 0);
        Setting.fresh(x, 0);
        Setting.fresh(x, 0);
        Setting.fresh(x, 0);
        Setting.give(x, 0, 2);
        x.back(0, 3);
        DUE.is(2, x.offered(0));
        x.back(0, 2);
        DUE.is(2, x.offered(0));
        x.back(0, 1);
        DUE.is(0, x.offered(0));
        x.back(0, 0);
        DUE.is(0, x.offered(0));
        x.back(0, -1);
        DUE.is(2, x.offered(0));
        // Another channel's bound is none for it.
        x.back(1, Setting.fresh(x, 1));
        DUE.is(2, x.offered(0));
    }

    private static void noneSuch() {
        DUE.by("NONE if nothing, or there is none such");
        RollStages x = Town.mixed();
        for (int wrong : Setting.notBelow(Town.MACHINES)) {
            DUE.is(-1, x.offered(wrong));
        }
        RollStages y = new RollStages();
        Setting.full(y, 0);
        for (int number = 0; number < 30; number++) {
            DUE.is(-1, y.offered(number));
            y.machine(0, 0);
            DUE.is(0, y.offered(number));
        }
        DUE.is(-1, y.offered(30));
    }

    private static void asksChangeNothing() {
        DUE.by("What is OFFERED; NONE if nothing");
        new Refused(DUE, Town::mixed).none(x -> x.offered(Town.MACHINES));
        RollStages x = new RollStages();
        x.machine(0, 0);
        Setting.full(x, 0);
        DUE.is(0, x.offered(0));
        DUE.is(-1, x.has(0));
        DUE.is(0, x.offered(0));
        Setting.full(x, 0);
        DUE.is(1, x.offered(0));
    }
}
