import java.util.function.Predicate;
import java.util.function.Supplier;
import java.util.function.ToIntFunction;

/** Refused calls: their answer, and that an object that heard one answers later as its twin that didn't. */
final class Refused {
    private final Due due;
    private final Supplier<RollStages> maker;
    private final String twin;

    Refused(Due due, Supplier<RollStages> maker) {
        this.due = due;
        this.maker = maker;
        this.twin = Town.later(maker.get());
    }

    void no(Predicate<RollStages> call) {
        RollStages x = maker.get();
        due.no(call.test(x));
        due.text(twin, Town.later(x));
    }

    void none(ToIntFunction<RollStages> call) {
        RollStages x = maker.get();
        due.is(Setting.NONE, call.applyAsInt(x));
        due.text(twin, Town.later(x));
    }
}
