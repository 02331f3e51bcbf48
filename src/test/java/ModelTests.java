import java.util.Random;

/** Long runs of calls on the program and on the document told once more; each answer is compared. */
final class ModelTests {
    private static final int RUNS = 400;
    private static final int CALLS = 500;

    private final PlacardWalkers x = new PlacardWalkers();
    private final PlainTown want = new PlainTown();
    private final Random random;
    private final StringBuilder calls = new StringBuilder();

    private ModelTests(long seed) {
        random = new Random(seed);
    }

    static void runAll() {
        Checks.run("runs as the document says", () -> {
            for (int seed = 0; seed < RUNS; seed++) {
                if (!new ModelTests(seed).runs()) {
                    return;
                }
            }
        });
        Checks.run("error positions as a pattern says", () -> {
            for (int seed = 0; seed < 20000; seed++) {
                ModelTests test = new ModelTests(seed);
                String text = test.walk();
                test.write(text);
                Checks.due("errorPosition() of " + text, test.x.errorPosition(), test.want.errorPosition());
            }
        });
    }

    private boolean runs() {
        for (int i = 0; i < CALLS; i++) {
            if (!call(random.nextInt(100)) || !seenAlike()) {
                Checks.fail(calls.toString());
                return false;
            }
        }
        return true;
    }

    private boolean same(String name, Checks.Call ours, Checks.Call theirs) {
        String got = Checks.outcome(ours);
        String due = Checks.outcome(theirs);
        calls.append(' ').append(name).append('=').append(got).append(';');
        if (!got.equals(due)) {
            Checks.same(name, got, due);
            return false;
        }
        return true;
    }

    /** Mostly from 0 on below a bound, now and then beside it. */
    private int below(int bound) {
        int kind = random.nextInt(40);
        return kind == 0 ? -1 : kind == 1 ? bound : kind == 2 ? random.nextInt() : random.nextInt(bound);
    }

    private boolean call(int kind) {
        int a = below(10);
        int b = below(10);
        int s = below(Math.max(1, want.now.roads.size()));
        if (kind < 12) {
            int letter = below(26);
            return same("walker " + letter, () -> x.walker(letter), () -> want.walker(letter));
        }
        if (kind < 18) {
            int cells = 2 + below(random.nextBoolean() ? 4 : 19);
            int green = 1 + below(random.nextBoolean() ? 4 : 20);
            int red = below(random.nextBoolean() ? 4 : 21);
            int width = 1 + below(6);
            return same("street " + cells + " " + green + " " + red + " " + width,
                () -> x.street(cells, green, red, width), () -> want.street(cells, green, red, width));
        }
        if (kind < 22) {
            int shift = below(40);
            return same("shift " + s + " " + shift, () -> x.shift(s, shift), () -> want.shift(s, shift));
        }
        if (kind < 24) {
            int letter = below(26);
            return same("letter " + a + " " + letter, () -> x.letter(a, letter), () -> want.letter(a, letter));
        }
        if (kind < 36) {
            return same("exchange " + a + " " + b, () -> x.exchange(a, b), () -> want.exchange(a, b));
        }
        if (kind < 38) {
            return same("back", x::back, want::back);
        }
        if (kind < 46) {
            int what = below(2);
            int v = below(what == 0 ? 4 : 2);
            return same("set " + what + " " + v, () -> x.set(what, v), () -> want.set(what, v));
        }
        if (kind < 70) {
            int n = 1 + below(random.nextInt(6) == 0 ? 99 : 6);
            return same("ticks " + n, () -> x.ticks(n), () -> want.ticks(n));
        }
        if (kind < 78) {
            return same("undo", x::undo, want::undo);
        }
        return rareCall(kind, s);
    }

    private boolean rareCall(int kind, int s) {
        int slot = below(2);
        switch (kind) {
            case 78:
                return same("allIn", x::allIn, want::allIn);
            case 79:
            case 80:
                int n = 1 + below(random.nextBoolean() ? 500 : 20);
                int what = 3 + below(8);
                return same("later " + n + " " + what, () -> x.later(n, what), () -> want.later(n, what));
            case 81:
                return same("bestRule", x::bestRule, want::bestRule);
            case 82:
                return same("bestShift " + s, () -> x.bestShift(s), () -> want.bestShift(s));
            case 83:
            case 84:
                int part = below(3);
                return same("bestExchange " + part, () -> x.bestExchange(part), () -> want.bestExchange(part));
            case 85:
            case 86:
            case 87:
            case 88:
            case 89:
                int commands = 1 + below(3);
                long script = script(commands);
                return same("runScript " + commands + " " + script, () -> x.runScript(commands, script),
                    () -> want.runScript(commands, script));
            case 90:
            case 91:
                long seed = random.nextLong();
                int m = 1 + below(60);
                return same("simulate " + seed + " " + m, () -> x.simulate(seed, m), () -> want.simulate(seed, m));
            case 92:
            case 93:
                return same("save " + slot, () -> x.save(slot), () -> want.save(slot));
            case 94:
            case 95:
                return same("restore " + slot, () -> x.restore(slot), () -> want.restore(slot));
            case 96:
                String text = walk();
                write(text);
                return same("errorPosition " + text, x::errorPosition, want::errorPosition)
                    && same("load " + text, x::load, want::load);
            case 97:
                int c = below(256);
                return same("append " + c, () -> x.append(c), () -> want.append(c));
            case 98:
                return same("clearText", x::clearText, want::clearText);
            default:
                return wrongQuestions();
        }
    }

    private boolean wrongQuestions() {
        int a = below(10);
        int b = below(13);
        return same("about", () -> x.about(b), () -> want.about(b))
            && same("walkerOf", () -> x.walkerOf(a, b), () -> want.walkerOf(a, b))
            && same("streetOf", () -> x.streetOf(a, b), () -> want.streetOf(a, b))
            && same("cell", () -> x.cell(a, b), () -> want.cell(a, b))
            && same("file", () -> x.file(a), () -> want.file(a))
            && same("read", () -> x.read(a, b), () -> want.read(a, b));
    }

    private boolean seenAlike() {
        for (int what = 0; what <= 12; what++) {
            int w = what;
            if (!alike("about " + w, () -> x.about(w), () -> want.about(w))) {
                return false;
            }
        }
        for (int k = 0; k < want.now.letters.size(); k++) {
            int walker = k;
            if (!alike("file " + k, () -> x.file(walker), () -> want.file(walker))) {
                return false;
            }
            for (int what = 0; what <= 5; what++) {
                int w = what;
                if (!alike("walkerOf " + k + " " + w, () -> x.walkerOf(walker, w), () -> want.walkerOf(walker, w))) {
                    return false;
                }
            }
        }
        for (int s = 0; s < want.now.roads.size(); s++) {
            if (!streetsAlike(s)) {
                return false;
            }
        }
        return true;
    }

    private boolean streetsAlike(int s) {
        for (int what = 0; what <= 9; what++) {
            int w = what;
            if (!alike("streetOf " + s + " " + w, () -> x.streetOf(s, w), () -> want.streetOf(s, w))) {
                return false;
            }
        }
        for (int c = 0; c <= 20; c++) {
            int i = c;
            if (!alike("cell " + s + " " + i, () -> x.cell(s, i), () -> want.cell(s, i))
                    || !alike("read " + s + " " + i, () -> x.read(s, i), () -> want.read(s, i))) {
                return false;
            }
        }
        return true;
    }

    private static boolean alike(String name, Checks.Call ours, Checks.Call theirs) {
        String got = Checks.outcome(ours);
        String due = Checks.outcome(theirs);
        if (!got.equals(due)) {
            Checks.same("then " + name, got, due);
            return false;
        }
        return true;
    }

    private long script(int commands) {
        StringBuilder digits = new StringBuilder();
        int count = Math.max(1, Math.min(3, commands));
        for (int i = 0; i < count; i++) {
            digits.append(group());
        }
        long script = Long.parseLong(digits.toString());
        return random.nextInt(30) == 0 ? script * 10 + 3 : random.nextInt(60) == 0 ? -script : script;
    }

    private String group() {
        int k = random.nextInt(10);
        int l = random.nextInt(10);
        int two = random.nextInt(random.nextBoolean() ? 100 : 10);
        String digits = switch (random.nextInt(11)) {
            case 0 -> String.format("1000%02d", two);
            case 1 -> "2" + k + l + "000";
            case 2 -> String.format("3%d00%02d", k % 5, two % 45);
            case 3 -> "4" + k % 3 + "000" + l % 5;
            case 4 -> "500000";
            case 5 -> "6" + k + l + "000";
            case 6 -> String.format("7000%02d", two);
            case 7 -> String.format("8000%02d", two);
            case 8 -> "9" + k + "000" + l % 5;
            default -> String.format("%06d", random.nextInt(1000000));
        };
        if (random.nextInt(12) > 0) {
            return digits;
        }
        int at = random.nextInt(6);
        return digits.substring(0, at) + random.nextInt(10) + digits.substring(at + 1);
    }

    private void write(String text) {
        x.clearText();
        want.clearText();
        for (char c : text.toCharArray()) {
            x.append(c);
            want.append(c);
        }
    }

    /** A walk, of which now and then a sign is another one or the end is missing. */
    private String walk() {
        StringBuilder text = new StringBuilder("W");
        int commands = random.nextInt(30);
        for (int i = 0; i < commands; i++) {
            text.append(command());
        }
        if (random.nextInt(3) == 0) {
            text.setCharAt(random.nextInt(text.length()), (char) random.nextInt(random.nextBoolean() ? 256 : 128));
        }
        if (random.nextInt(3) == 0) {
            text.setCharAt(random.nextInt(text.length()), (char) ('0' + random.nextInt(10)));
        }
        if (random.nextInt(4) == 0) {
            text.setLength(random.nextInt(text.length() + 1));
        }
        return text.substring(0, Math.min(120, text.length()));
    }

    private String command() {
        int two = random.nextInt(100);
        return switch (random.nextInt(9)) {
            case 0, 1 -> "w" + (char) ('A' + random.nextInt(26));
            case 2 -> String.format("s%02d%02d%02d%d", 2 + random.nextInt(19), 1 + random.nextInt(20),
                random.nextInt(21), 1 + random.nextInt(6));
            case 3 -> String.format("b%d%02d", random.nextInt(4), random.nextInt(40));
            case 4 -> "r" + random.nextInt(4);
            case 5 -> "m" + random.nextInt(2);
            case 6, 7 -> String.format("x%02d", two);
            default -> String.format("t%02d", Math.max(1, two));
        };
    }
}
