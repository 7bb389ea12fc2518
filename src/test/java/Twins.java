import java.util.function.Supplier;
import java.util.function.ToLongFunction;

/** Asks a call of an object, and looks whether it is like its twin then, which was made alike and not asked. */
final class Twins {
    static final String SCHOOL = "slates 4;num 5;num 7;add 0 1;turn 2 by 3;times 3 1;";

    private final Check check;
    private final Supplier<SlatePlay> maker;
    private final String whole;

    Twins(Check check, Supplier<SlatePlay> maker) {
        this.check = check;
        this.maker = maker;
        this.whole = Whole.of(maker.get());
    }

    /** The answer is as due, and all is as it was. */
    void stay(String call, long due, ToLongFunction<SlatePlay> asked) {
        SlatePlay x = maker.get();
        check.due(call, asked.applyAsLong(x), due);
        check.same(call + " leaves all as it was", Whole.of(x), whole);
    }

    /** The answer is as due, and all is as another call would leave it, or several. */
    void become(String call, long due, ToLongFunction<SlatePlay> asked, ToLongFunction<SlatePlay> other) {
        SlatePlay x = maker.get();
        check.due(call, asked.applyAsLong(x), due);
        SlatePlay y = maker.get();
        other.applyAsLong(y);
        check.same(call + " leaves all as it must", Whole.of(x), Whole.of(y));
    }

    /**
     * Something of everything: SUMS 1, 2 and 3 STAND on 5 slates (2 lent, 1 lost), 1 with a wrong number;
     * IMAGES 0 and 2; rows in SLOTS 0, 1 and 3; a text on the TAPE, and a FAULT of the school() ahead of it.
     */
    static SlatePlay rich() {
        SlatePlay x = Told.standing(SCHOOL, 0, 1);
        x.image(0);
        x.lend(2);
        x.move(2);
        x.move(3);
        x.lose(0);
        x.smudge(1, 9);
        x.image(2);
        Told.tell(x, "slates 0;");
        Told.row(x, 0, 0, 0, 103, 4);
        Told.row(x, 1, 3, 1, 2);
        x.row(3, 2, 0);
        Told.tape(x, "slates 2;num 4;");
        return x;
    }

    /** All that can be kept without a SCHOOL. */
    static SlatePlay withoutSchool() {
        SlatePlay x = new SlatePlay();
        x.image(1);
        Told.row(x, 2, 1, 7, 13);
        Told.tape(x, "slates 3;num 1");
        return x;
    }
}
