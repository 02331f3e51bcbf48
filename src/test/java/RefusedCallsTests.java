import java.util.function.Supplier;
import java.util.function.ToLongFunction;

/** "A call that throws an exception changes nothing", and neither do the questions. */
final class RefusedCallsTests {
    private static final String INDEX = "IndexOutOfBoundsException";
    private static final String ARGUMENT = "IllegalArgumentException";
    private static final String STATE = "IllegalStateException";

    private RefusedCallsTests() {
    }

    static void runAll() {
        textsAndQuestions();
        actions();
        foresight();
        scriptsAndSlots();
        fullTowns();
        questions();
    }

    private static void busy(String name, ToLongFunction<PlacardWalkers> call, String outcome) {
        run(name, Twins::busy, call, outcome);
    }

    private static void run(String name, Supplier<PlacardWalkers> made, ToLongFunction<PlacardWalkers> call,
            String outcome) {
        Checks.run("refused: " + name, () -> Twins.unchanged(name, made, call, outcome));
    }

    private static void textsAndQuestions() {
        busy("append(-1)", x -> x.append(-1), ARGUMENT);
        busy("append(256)", x -> x.append(256), ARGUMENT);
        busy("load() of a text that is cut short", x -> x.load(), STATE);
        busy("about(-1)", x -> x.about(-1), ARGUMENT);
        busy("about(13)", x -> x.about(13), ARGUMENT);
        busy("walkerOf(6, 0)", x -> x.walkerOf(6, 0), INDEX);
        busy("walkerOf(5, 6)", x -> x.walkerOf(5, 6), ARGUMENT);
        busy("streetOf(2, 0)", x -> x.streetOf(2, 0), INDEX);
        busy("streetOf(1, 10)", x -> x.streetOf(1, 10), ARGUMENT);
        busy("cell(2, 0)", x -> x.cell(2, 0), INDEX);
        busy("cell(1, 2)", x -> x.cell(1, 2), INDEX);
        busy("file(6)", x -> x.file(6), INDEX);
        busy("read(2, 0)", x -> x.read(2, 0), INDEX);
        busy("read(1, -1)", x -> x.read(1, -1), ARGUMENT);
    }

    private static void actions() {
        busy("walker(-1)", x -> x.walker(-1), ARGUMENT);
        busy("walker(26)", x -> x.walker(26), ARGUMENT);
        busy("street() of 1 cell", x -> x.street(1, 1, 0, 1), ARGUMENT);
        busy("street() when one has come", x -> x.street(2, 1, 0, 1), STATE);
        busy("shift(2, 0)", x -> x.shift(2, 0), INDEX);
        busy("shift(1, 40)", x -> x.shift(1, 40), ARGUMENT);
        busy("letter(6, 0)", x -> x.letter(6, 0), INDEX);
        busy("letter(5, 26)", x -> x.letter(5, 26), ARGUMENT);
        busy("exchange(5, 6)", x -> x.exchange(5, 6), INDEX);
        busy("exchange(5, 5)", x -> x.exchange(5, 5), ARGUMENT);
        busy("exchange() with who has come", x -> x.exchange(x.file(0), x.file(5)), STATE);
        busy("set(0, 4)", x -> x.set(0, 4), ARGUMENT);
        busy("set(1, 2)", x -> x.set(1, 2), ARGUMENT);
        busy("set(2, 0)", x -> x.set(2, 0), ARGUMENT);
        busy("ticks(0)", x -> x.ticks(0), ARGUMENT);
        busy("ticks(100)", x -> x.ticks(100), ARGUMENT);
        run("undo() of no state", Twins::fresh, x -> x.undo(), STATE);
    }

    private static void foresight() {
        busy("later(0, 3)", x -> x.later(0, 3), ARGUMENT);
        busy("later(501, 3)", x -> x.later(501, 3), ARGUMENT);
        busy("later(1, 2)", x -> x.later(1, 2), ARGUMENT);
        busy("later(1, 11)", x -> x.later(1, 11), ARGUMENT);
        busy("bestShift(2)", x -> x.bestShift(2), INDEX);
        busy("bestExchange(3)", x -> x.bestExchange(3), ARGUMENT);
    }

    private static void scriptsAndSlots() {
        busy("runScript() of 4", x -> x.runScript(4, 500000), ARGUMENT);
        busy("runScript() of 7 digits", x -> x.runScript(1, 1500000), ARGUMENT);
        busy("runScript() below 0", x -> x.runScript(1, -500000), ARGUMENT);
        busy("simulate() of no turn", x -> x.simulate(5, 0), ARGUMENT);
        busy("simulate() of 61 turns", x -> x.simulate(5, 61), ARGUMENT);
        busy("save(2)", x -> x.save(2), INDEX);
        busy("save(-1)", x -> x.save(-1), INDEX);
        busy("restore(2)", x -> x.restore(2), INDEX);
        busy("restore(-1)", x -> x.restore(-1), INDEX);
        busy("restore() of the empty slot beside a full one", x -> x.restore(1), STATE);
        run("restore(0) of nothing", Twins::fresh, x -> x.restore(0), STATE);
        run("load() of no text", Twins::fresh, x -> x.load(), STATE);
    }

    private static void fullTowns() {
        run("append() to 120 signs", Twins::full, x -> x.append('r'), STATE);
        run("the 11th walker", Twins::full, x -> x.walker(3), STATE);
        run("the 5th street", Twins::full, x -> x.street(2, 1, 0, 1), STATE);
    }

    private static void asked(String name, ToLongFunction<PlacardWalkers> call) {
        Checks.run("asked: " + name, () -> {
            Twins.asked(name, Twins::busy, call);
            Twins.asked(name, Twins::full, call);
        });
    }

    private static void questions() {
        asked("errorPosition()", x -> x.errorPosition());
        asked("what there is", x -> x.about(8) + x.walkerOf(1, 4) + x.streetOf(1, 9) + x.cell(1, 1) + x.file(3)
            + x.read(0, 1));
        asked("allIn()", x -> x.allIn());
        asked("later()", x -> x.later(500, 7));
        asked("bestRule()", x -> x.bestRule());
        asked("bestShift()", x -> x.bestShift(1));
        asked("bestExchange()", x -> x.bestExchange(2));
        asked("runScript()", x -> x.runScript(3, 400003_100099_500000L));
        asked("runScript() that fails at its end", x -> x.runScript(3, 300039_100001_999999L));
        asked("simulate()", x -> x.simulate(7, 60));
    }
}
