import java.util.function.Supplier;
import java.util.function.ToLongFunction;

/** Objects made alike, one of which gets a call more that may change nothing. */
final class Twins {
    private static final int UNDOS = 15;

    private Twins() {
    }

    /** The call ends so, and all that can be got out of the object is as without it. */
    static void unchanged(String name, Supplier<PlacardWalkers> made, ToLongFunction<PlacardWalkers> call, String outcome) {
        PlacardWalkers x = made.get();
        Checks.same(name, Checks.outcome(() -> call.applyAsLong(x)), outcome);
        Supplier<PlacardWalkers> called = () -> {
            PlacardWalkers other = made.get();
            Checks.outcome(() -> call.applyAsLong(other));
            return other;
        };
        Checks.same("all behind " + name, everything(called), everything(made));
    }

    static void asked(String name, Supplier<PlacardWalkers> made, ToLongFunction<PlacardWalkers> call) {
        PlacardWalkers x = made.get();
        unchanged(name, made, call, Checks.outcome(() -> call.applyAsLong(x)));
    }

    /** Each part is got out of a new object, so that none is used for too many calls. */
    static String everything(Supplier<PlacardWalkers> made) {
        StringBuilder all = new StringBuilder();
        for (int undos = 0; undos <= UNDOS; undos++) {
            PlacardWalkers x = made.get();
            for (int i = 1; i < undos; i++) {
                Checks.outcome(x::undo);
            }
            all.append("\nundo ").append(undos == 0 ? "" : Checks.outcome(x::undo)).append(' ').append(Towns.look(x));
        }
        for (int slot = 0; slot <= 1; slot++) {
            PlacardWalkers x = made.get();
            all.append("\nrestore ").append(Checks.outcome(restoring(x, slot))).append(' ').append(Towns.look(x));
        }
        PlacardWalkers drawing = made.get();
        drawing.set(0, 3);
        drawing.ticks(99);
        all.append("\ndraws ").append(Towns.look(drawing));
        PlacardWalkers loading = made.get();
        all.append("\ntext ").append(loading.errorPosition()).append(' ').append(Checks.outcome(loading::load));
        all.append(' ').append(Towns.look(loading)).append(' ').append(loading.clearText());
        return all.toString();
    }

    private static Checks.Call restoring(PlacardWalkers x, int slot) {
        return () -> x.restore(slot);
    }

    /** Six walkers, of whom one has come; 14 states remembered, slot 0 filled, the text cut short. */
    static PlacardWalkers busy() {
        PlacardWalkers x = Towns.of("WwAwBwCwDwEwFs0201006s0201126r3t08");
        x.save(0);
        for (int i = 0; i < 10; i++) {
            x.letter(i % 6, i);
        }
        x.exchange(4, 5);
        x.ticks(5);
        x.shift(0, 7);
        x.exchange(x.file(1), x.file(2));
        x.set(1, 1);
        Towns.write(x, "Wx");
        return x;
    }

    /** Ten walkers, four streets, nobody has come; a text of 120 signs. */
    static PlacardWalkers full() {
        PlacardWalkers x = Towns.of("WwAwBwCwDwEwFwGwHwIwJs0201032s0201011s0301003s0201061t12");
        x.exchange(8, 9);
        Towns.write(x, Towns.LONGEST_WALK);
        return x;
    }

    /** No state remembered, nothing saved, no text. */
    static PlacardWalkers fresh() {
        PlacardWalkers x = Towns.of("WwAwBwCs0201033t05");
        x.clearText();
        return x;
    }
}
