/** For each promise at least one test that fails if the promise is broken. */
final class PromiseTests {
    private static final int NONE = PlacardWalkers.NONE;
    private static final int LOW = Integer.MIN_VALUE;
    private static final int HIGH = Integer.MAX_VALUE;

    private PromiseTests() {
    }

    static void runAll() {
        Checks.run("promise 1: a new object", PromiseTests::promise01);
        Checks.run("promise 2: append", PromiseTests::promise02);
        Checks.run("promise 3: clearText", PromiseTests::promise03);
        Checks.run("promise 4: errorPosition", PromiseTests::promise04);
        Checks.run("promise 5: load", PromiseTests::promise05);
        Checks.run("promise 5: load that is refused", PromiseTests::promise05Refused);
        Checks.run("promise 6: about", PromiseTests::promise06);
        Checks.run("promise 7: walkerOf", PromiseTests::promise07);
        Checks.run("promise 8: streetOf", PromiseTests::promise08);
        Checks.run("promise 9: cell", PromiseTests::promise09);
        Checks.run("promise 10: file", PromiseTests::promise10);
        Checks.run("promise 11: read", PromiseTests::promise11);
        Checks.run("promise 12: walker", PromiseTests::promise12);
        Checks.run("promise 13: street", PromiseTests::promise13);
        Checks.run("promise 14: shift", PromiseTests::promise14);
        Checks.run("promise 15: letter", PromiseTests::promise15);
        Checks.run("promise 16: exchange", PromiseTests::promise16);
        Checks.run("promise 17: back", PromiseTests::promise17);
        Checks.run("promise 18: set", PromiseTests::promise18);
        Checks.run("promise 19: ticks", PromiseTests::promise19);
        Checks.run("promise 19: lights", PromiseTests::promise19Lights);
        Checks.run("promise 19: rules", PromiseTests::promise19Rules);
        Checks.run("promise 19: draws", PromiseTests::promise19Draws);
        Checks.run("promise 19: crowds and the next street", PromiseTests::promise19Crowds);
        Checks.run("promise 19: changing places", PromiseTests::promise19Mixing);
        Checks.run("promise 20: undo", PromiseTests::promise20);
        Checks.run("promise 21: allIn", PromiseTests::promise21);
        Checks.run("promise 22: later", PromiseTests::promise22);
        Checks.run("promise 23: bestRule", PromiseTests::promise23);
        Checks.run("promise 24: bestShift", PromiseTests::promise24);
        Checks.run("promise 25: bestExchange", PromiseTests::promise25);
        Checks.run("promise 26: runScript", PromiseTests::promise26);
        Checks.run("promise 26: groups that fail", PromiseTests::promise26Groups);
        Checks.run("promise 27: simulate", PromiseTests::promise27);
        Checks.run("promise 28: save", PromiseTests::promise28);
        Checks.run("promise 29: restore", PromiseTests::promise29);
    }

    private static void about(PlacardWalkers x, int... want) {
        for (int what = 0; what < want.length; what++) {
            Checks.due("about(" + what + ")", x.about(what), want[what]);
        }
    }

    private static void promise01() {
        PlacardWalkers x = new PlacardWalkers();
        about(x, 0, 0, 0, 0, 0, 0, 0, 0, 0, 0, 0, 0, 0);
        Checks.due("clearText()", x.clearText(), 0);
        Checks.state("undo()", x::undo);
        Checks.state("restore(0)", () -> x.restore(0));
        Checks.state("restore(1)", () -> x.restore(1));
        Checks.index("walkerOf(0, 0)", () -> x.walkerOf(0, 0));
        Checks.index("streetOf(0, 0)", () -> x.streetOf(0, 0));
        Checks.due("allIn()", x.allIn(), 0);
        PlacardWalkers other = new PlacardWalkers();
        other.walker(3);
        Checks.due("walkers of another object", x.about(0), 0);
        Checks.due("NONE", NONE, -1);
    }

    private static void promise02() {
        PlacardWalkers x = new PlacardWalkers();
        for (int c : new int[] {-1, 256, LOW, HIGH}) {
            Checks.argument("append(" + c + ")", () -> x.append(c));
        }
        Checks.due("append(0)", x.append(0), 1);
        Checks.due("append(255)", x.append(255), 2);
        for (int i = 3; i <= 120; i++) {
            Checks.due("append", x.append('W'), i);
        }
        Checks.state("append() to 120", () -> x.append('W'));
        Checks.argument("append(256) to 120", () -> x.append(256));
        Checks.due("clearText()", x.clearText(), 120);
        Checks.due("append", x.append('W'), 1);
        Checks.state("undo() after append", x::undo);
    }

    private static void promise03() {
        PlacardWalkers x = Towns.of("WwAwB");
        String before = Towns.look(x);
        Checks.due("clearText()", x.clearText(), 5);
        Checks.due("clearText()", x.clearText(), 0);
        Checks.due("errorPosition()", x.errorPosition(), 0);
        Checks.same("the state", Towns.look(x), before);
        Checks.state("undo() after clearText", x::undo);
        x.append('W');
        Checks.due("errorPosition() of W", x.errorPosition(), NONE);
    }

    private static void error(String walk, int want) {
        PlacardWalkers x = new PlacardWalkers();
        Towns.write(x, walk);
        Checks.due("errorPosition() of " + walk, x.errorPosition(), want);
        Checks.due("length of " + walk, x.clearText(), walk.length());
    }

    private static void promise04() {
        for (String walk : new String[] {"W", "WwA", "WwZ", "Ws0201001", "Ws2020206", "Ws0910091", "Ws1919196", "Wb000",
            "Wb339", "Wr0", "Wr3", "Wm0", "Wm1", "Wx00", "Wx99", "Wt01", "Wt10", "Wt99", "WwAs0201001b000r0m0x00t01wZ"}) {
            error(walk, NONE);
            if (walk.length() > 1 && walk.length() < 12) {
                error(walk.substring(0, walk.length() - 1), walk.length() - 1);
            }
        }
        error("", 0);
        error("w", 0);
        error(" W", 0);
        error("W ", 1);
        error("WW", 1);
        error("Wc", 1);
        error("W0", 1);
        error("Ww@", 2);
        error("Ww[", 2);
        error("Wwa", 2);
        error("Ww0", 2);
        error("Ws3", 2);
        error("Ws00", 3);
        error("Ws01", 3);
        error("Ws21", 3);
        error("Ws023", 4);
        error("Ws0200", 5);
        error("Ws0221", 5);
        error("Ws02013", 6);
        error("Ws020121", 7);
        error("Ws0201000", 8);
        error("Ws0201007", 8);
        error("Ws/", 2);
        error("Ws:", 2);
        error("Wb4", 2);
        error("Wb04", 3);
        error("Wb03:", 4);
        error("Wb0/", 3);
        error("Wr4", 2);
        error("Wm2", 2);
        error("Wx:", 2);
        error("Wx0/", 3);
        error("Wt00", 3);
        error("Wt0:", 3);
        error("Wt:", 2);
        error("WwAwBx0", 7);
        error("WwAwBx01" + (char) 0, 8);
        error("WwAwBx01" + (char) 255, 8);
        error("WwAwBx01s", 9);
        error("Ws020100\u00b2", 8);
    }

    private static void promise05() {
        PlacardWalkers x = new PlacardWalkers();
        x.walker(7);
        x.street(5, 2, 3, 4);
        x.set(0, 3);
        x.set(1, 1);
        x.ticks(30);
        x.save(0);
        x.save(1);
        Towns.write(x, "WwBs0301002b005r2m1wDx01t03t02");
        Checks.due("load()", x.load(), 0);
        about(x, 2, 1, 5, 0, 0, 1, 1, 0, 2, 2, 0, 2, 1);
        Checks.due("walkerOf(0, 0)", x.walkerOf(0, 0), 1);
        Checks.due("walkerOf(1, 0)", x.walkerOf(1, 0), 3);
        Checks.due("walkerOf(0, 5)", x.walkerOf(0, 5), 5);
        for (int what = 0; what <= 4; what++) {
            Checks.due("streetOf(0, " + what + ")", x.streetOf(0, what), new int[] {3, 1, 0, 5, 2}[what]);
        }
        Checks.state("undo()", x::undo);
        Checks.state("restore(0)", () -> x.restore(0));
        Checks.state("restore(1)", () -> x.restore(1));
        x.ticks(9);
        Checks.due("load() again", x.load(), 0);
        Checks.due("time", x.about(2), 5);
        Towns.write(x, "Wb000x01wAx00x01wBx10s0201001t04s0201001x01b100");
        Checks.due("load() leaves out", x.load(), 7);
        Checks.due("streets", x.about(1), 1);
        Checks.due("the shift of the new street", x.streetOf(0, 3), 0);
        Towns.write(x, "WwAwBwCwDwEwFwGwHwIwJwK");
        Checks.due("load() of 11 walkers", x.load(), 1);
        Towns.write(x, "Ws0201001s0201001s0201001s0201001s0201001");
        Checks.due("load() of 5 streets", x.load(), 1);
        Towns.write(x, "W");
        Checks.due("load() of W", x.load(), 0);
        about(x, 0, 0, 0, 0, 0, 0, 0, 0, 0, 0, 0, 0, 0);
        drawsAnewAfterLoad();
    }

    private static void drawsAnewAfterLoad() {
        PlacardWalkers x = Towns.of("WwAwBwCwDwEs0201206r3t63");
        String once = Towns.look(x);
        x.ticks(99);
        x.load();
        Checks.same("the draws behind load()", Towns.look(x), once);
    }

    private static void promise05Refused() {
        PlacardWalkers x = Towns.of("WwAwBs0201001");
        x.save(1);
        x.ticks(2);
        String before = Towns.look(x);
        Towns.write(x, "WwAw");
        Checks.state("load()", x::load);
        Checks.same("the state", Towns.look(x), before);
        Checks.due("the text", x.clearText(), 4);
        Checks.state("load() of nothing", x::load);
        Checks.due("undo()", x.undo(), 0);
        Checks.due("restore(1)", x.restore(1), 0);
    }

    private static void promise06() {
        PlacardWalkers x = Towns.of("WwAwBwAwCwBwD");
        about(x, 6, 0, 0, 6, 0, 0, 0, 0, 6, 6, 0, 0, 0);
        x.exchange(0, 2);
        Checks.same("the file", Towns.file(x), "210345");
        about(x, 6, 0, 0, 6, 0, 0, 0, 3, 4, 6, 1, 0, 0);
        x.exchange(1, 4);
        Checks.same("the file", Towns.file(x), "240315");
        about(x, 6, 0, 0, 6, 0, 0, 0, 6, 3, 6, 2, 0, 0);
        x.exchange(0, 5);
        Checks.same("the file", Towns.file(x), "245310");
        about(x, 6, 0, 0, 6, 0, 0, 0, 11, 3, 4, 3, 0, 0);
        everyOrderOfFive();
        PlacardWalkers y = Towns.of("WwAwBwCwDwEwFs0201032r1m1t04t01");
        about(y, 6, 1, 5, 1, 2, 2, 1, 0, 6, 6, 0, 1, 1);
        for (int what : new int[] {-1, 13, LOW, HIGH}) {
            Checks.argument("about(" + what + ")", () -> x.about(what));
        }
    }

    private static void everyOrderOfFive() {
        for (int order = 0; order < 120; order++) {
            PlacardWalkers x = Towns.of("WwAwBwAwCwB");
            PlainTown plain = new PlainTown();
            for (int letter : new int[] {0, 1, 0, 2, 1}) {
                plain.walker(letter);
            }
            int rest = order;
            for (int k = 1; k < 5; k++) {
                int other = rest % (k + 1);
                rest /= k + 1;
                if (other != k) {
                    x.exchange(k, other);
                    plain.exchange(k, other);
                }
            }
            for (int what = 7; what <= 10; what++) {
                Checks.due("about(" + what + ") of " + Towns.file(x), x.about(what), plain.about(what));
            }
        }
    }

    private static void walkerOf(PlacardWalkers x, int k, int... want) {
        for (int what = 0; what < want.length; what++) {
            Checks.due("walkerOf(" + k + ", " + what + ")", x.walkerOf(k, what), want[what]);
        }
    }

    private static void promise07() {
        PlacardWalkers x = Towns.of("WwAwBwCwDwZs0201032s0301002t05");
        walkerOf(x, 0, 0, 1, 1, 1, 0, NONE);
        walkerOf(x, 1, 1, 2, 0, NONE, 1, NONE);
        walkerOf(x, 2, 2, 2, 0, NONE, 2, NONE);
        walkerOf(x, 3, 3, 1, 0, 1, 3, NONE);
        walkerOf(x, 4, 25, 1, 0, 0, 4, NONE);
        x.walker(9);
        walkerOf(x, 5, 9, 0, NONE, NONE, 5, NONE);
        x.ticks(3);
        walkerOf(x, 0, 0, 3, NONE, NONE, 0, 8);
        for (int k : new int[] {-1, 6, LOW, HIGH}) {
            Checks.index("walkerOf(" + k + ", 0)", () -> x.walkerOf(k, 0));
            Checks.index("walkerOf(" + k + ", 9)", () -> x.walkerOf(k, 9));
        }
        for (int what : new int[] {-1, 6, LOW, HIGH}) {
            Checks.argument("walkerOf(0, " + what + ")", () -> x.walkerOf(0, what));
        }
    }

    private static void promise08() {
        PlacardWalkers x = Towns.of("WwAwBwCwDwEs0402033b101b039s0301002b101t10");
        int[] want = {4, 2, 3, 39, 3, 0, 3, 0, 2, 0};
        int[] other = {3, 1, 0, 1, 2, 0, 1, 1, 1, 0};
        for (int what = 0; what <= 9; what++) {
            Checks.due("streetOf(0, " + what + ")", x.streetOf(0, what), want[what]);
            Checks.due("streetOf(1, " + what + ")", x.streetOf(1, what), other[what]);
        }
        PlacardWalkers y = Towns.of("WwAwBwCs0201002s0201001x02t04x01t09");
        Checks.same("read at 0", Towns.read(y, 0), "201");
        Checks.due("streetOf(0, 9)", y.streetOf(0, 9), 2);
        for (int s : new int[] {-1, 2, LOW, HIGH}) {
            Checks.index("streetOf(" + s + ", 0)", () -> x.streetOf(s, 0));
            Checks.index("streetOf(" + s + ", 10)", () -> x.streetOf(s, 10));
        }
        for (int what : new int[] {-1, 10, LOW, HIGH}) {
            Checks.argument("streetOf(1, " + what + ")", () -> x.streetOf(1, what));
        }
        greenNow();
    }

    private static void greenNow() {
        PlacardWalkers x = new PlacardWalkers();
        x.street(2, 2, 3, 1);
        StringBuilder lights = new StringBuilder();
        for (int time = 0; time <= 10; time++) {
            lights.append(x.streetOf(0, 7));
            x.ticks(1);
        }
        Checks.same("the light from the time 0", lights.toString(), "11000110001");
        x.shift(0, 3);
        Checks.due("green at 11 with the shift 3", x.streetOf(0, 7), 0);
        x.shift(0, 4);
        Checks.due("green at 11 with the shift 4", x.streetOf(0, 7), 1);
        PlacardWalkers y = Towns.of("Ws0220001t20");
        Checks.due("green without red", y.streetOf(0, 7), 1);
    }

    private static void promise09() {
        PlacardWalkers x = Towns.of("WwAwBs0301001s0201001t02");
        Checks.same("street 0", Towns.cells(x, 0), "10.");
        Checks.same("street 1", Towns.cells(x, 1), "..");
        x.ticks(2);
        Checks.due("behind its last cell", x.walkerOf(0, 1), 2);
        Checks.same("street 0", Towns.cells(x, 0), "..1");
        for (int c : new int[] {-1, 3, LOW, HIGH}) {
            Checks.index("cell(0, " + c + ")", () -> x.cell(0, c));
        }
        Checks.index("cell(1, 2)", () -> x.cell(1, 2));
        for (int s : new int[] {-1, 2, LOW, HIGH}) {
            Checks.index("cell(" + s + ", 0)", () -> x.cell(s, 0));
        }
        PlacardWalkers y = Towns.of("Ws2001001");
        Checks.due("cell(0, 19)", y.cell(0, 19), NONE);
        Checks.index("cell(0, 20)", () -> y.cell(0, 20));
    }

    private static void promise10() {
        PlacardWalkers x = Towns.of("WwAwBwCwDwEwFwGwHs0201012s0301032t07x07x26");
        Checks.same("all of the file", Towns.file(x), "71634520");
        Checks.same("street 1", Towns.cells(x, 1), ".1.");
        Checks.same("street 0", Towns.cells(x, 0), "54");
        PlacardWalkers y = Towns.of("WwAwBwCs0201001t04");
        Checks.same("come, crowd, cell", Towns.file(y), "012");
        y.exchange(1, 2);
        Checks.same("the file", Towns.file(y), "021");
        Checks.due("walkerOf(2, 1)", y.walkerOf(2, 1), 2);
        for (int place : new int[] {-1, 3, LOW, HIGH}) {
            Checks.index("file(" + place + ")", () -> y.file(place));
        }
        Checks.index("file(0) of nobody", () -> new PlacardWalkers().file(0));
        Checks.same("without streets", Towns.file(Towns.of("WwAwBwCx02x01")), "201");
    }

    private static void promise11() {
        PlacardWalkers x = Towns.of("WwAwBwCs0201001s0201001x02t09");
        Checks.same("read at 0", Towns.read(x, 0), "210");
        Checks.same("read at 1", Towns.read(x, 1), "210");
        Checks.due("read(0, 3)", x.read(0, 3), NONE);
        Checks.due("read(0, HIGH)", x.read(0, HIGH), NONE);
        Checks.argument("read(0, -1)", () -> x.read(0, -1));
        Checks.argument("read(1, LOW)", () -> x.read(1, LOW));
        for (int s : new int[] {-1, 2, LOW, HIGH}) {
            Checks.index("read(" + s + ", -1)", () -> x.read(s, -1));
        }
        x.back();
        Checks.same("read at 0 after back()", Towns.read(x, 0), "");
        sameWalkerReadTwice();
    }

    private static void sameWalkerReadTwice() {
        PlacardWalkers x = Towns.of("WwAwBs0201001s2001001t05x01");
        Checks.same("read before", Towns.read(x, 0), "01");
        PlacardWalkers y = Towns.of("WwAwBs0201001s2001001t04x01t01");
        Checks.same("read twice", Towns.read(y, 0), "00");
        Checks.due("pairs of the same", y.streetOf(0, 9), 0);
    }

    private static void promise12() {
        PlacardWalkers x = new PlacardWalkers();
        for (int letter : new int[] {-1, 26, LOW, HIGH}) {
            Checks.argument("walker(" + letter + ")", () -> x.walker(letter));
        }
        Checks.state("undo()", x::undo);
        Checks.due("walker(0)", x.walker(0), 0);
        x.street(2, 1, 0, 1);
        x.ticks(9);
        for (int k = 1; k < 10; k++) {
            Checks.due("walker()", x.walker(k == 9 ? 25 : k), k);
            walkerOf(x, k, k == 9 ? 25 : k, 0, NONE, NONE, k, NONE);
        }
        Checks.same("the file", Towns.file(x), "0123456789");
        Checks.state("walker(0), the 11th", () -> x.walker(0));
        Checks.argument("walker(26), the 11th", () -> x.walker(26));
        Checks.due("undo()", x.undo(), 11);
        Checks.due("walkers", x.about(0), 9);
        Checks.due("walker() again", x.walker(4), 9);
    }

    private static void promise13() {
        PlacardWalkers x = new PlacardWalkers();
        int[][] wrong = {{1, 1, 0, 1}, {21, 1, 0, 1}, {2, 0, 0, 1}, {2, 21, 0, 1}, {2, 1, -1, 1}, {2, 1, 21, 1},
            {2, 1, 0, 0}, {2, 1, 0, 7}, {LOW, 1, 0, 1}, {2, HIGH, 0, 1}};
        for (int[] w : wrong) {
            Checks.argument("street()", () -> x.street(w[0], w[1], w[2], w[3]));
        }
        Checks.due("street(2, 1, 0, 1)", x.street(2, 1, 0, 1), 0);
        Checks.due("street(20, 20, 20, 6)", x.street(20, 20, 20, 6), 1);
        Checks.due("street()", x.street(3, 2, 1, 4), 2);
        Checks.due("street()", x.street(3, 2, 1, 4), 3);
        for (int what = 0; what <= 4; what++) {
            Checks.due("streetOf(1, " + what + ")", x.streetOf(1, what), new int[] {20, 20, 20, 0, 6}[what]);
        }
        Checks.state("street(), the 5th", () -> x.street(2, 1, 0, 1));
        Checks.argument("street(1, ..), the 5th", () -> x.street(1, 1, 0, 1));
        Checks.due("undo()", x.undo(), 3);
        PlacardWalkers y = Towns.of("WwAs0201001t03");
        Checks.due("street() with one in the crowd", y.street(2, 1, 0, 1), 1);
        y.ticks(1);
        Checks.due("who goes on to it", y.walkerOf(0, 2), 1);
        y.ticks(3);
        Checks.due("come", y.about(6), 1);
        Checks.state("street() when one has come", () -> y.street(2, 1, 0, 1));
        Checks.argument("street(2, 1, 0, 7) when one has come", () -> y.street(2, 1, 0, 7));
        y.back();
        Checks.due("street() after back()", y.street(2, 1, 0, 1), 2);
        undoneStreetComesNew();
    }

    private static void undoneStreetComesNew() {
        PlacardWalkers x = Towns.of("WwAs0201001");
        x.street(2, 1, 0, 1);
        x.shift(1, 30);
        x.ticks(9);
        x.undo();
        x.undo();
        x.undo();
        x.street(4, 1, 0, 1);
        Checks.due("its shift", x.streetOf(1, 3), 0);
        Checks.due("read there", x.streetOf(1, 8), 0);
    }

    private static void promise14() {
        PlacardWalkers x = Towns.of("WwAs0201051s0201051");
        Checks.due("shift(1, 39)", x.shift(1, 39), 0);
        Checks.due("shift(1, 0)", x.shift(1, 0), 39);
        Checks.due("shift(0, 2)", x.shift(0, 2), 0);
        Checks.due("streetOf(0, 3)", x.streetOf(0, 3), 2);
        Checks.due("streetOf(1, 3)", x.streetOf(1, 3), 0);
        x.ticks(4);
        Checks.due("left by the shifted light", x.walkerOf(0, 2), 1);
        for (int s : new int[] {-1, 2, LOW, HIGH}) {
            Checks.index("shift(" + s + ", 40)", () -> x.shift(s, 40));
        }
        for (int shift : new int[] {-1, 40, LOW, HIGH}) {
            Checks.argument("shift(0, " + shift + ")", () -> x.shift(0, shift));
        }
        Checks.due("undo()", x.undo(), 3);
    }

    private static void promise15() {
        PlacardWalkers x = Towns.of("WwCwD");
        Checks.due("letter(1, 25)", x.letter(1, 25), 3);
        Checks.due("letter(1, 0)", x.letter(1, 0), 25);
        Checks.due("walkerOf(1, 0)", x.walkerOf(1, 0), 0);
        Checks.due("walkerOf(0, 0)", x.walkerOf(0, 0), 2);
        for (int k : new int[] {-1, 2, LOW, HIGH}) {
            Checks.index("letter(" + k + ", 26)", () -> x.letter(k, 26));
        }
        for (int letter : new int[] {-1, 26, LOW, HIGH}) {
            Checks.argument("letter(0, " + letter + ")", () -> x.letter(0, letter));
        }
        Checks.due("undo()", x.undo(), 1);
        Checks.due("walkerOf(1, 0)", x.walkerOf(1, 0), 25);
    }

    private static void promise16() {
        PlacardWalkers x = Towns.of("WwAwBwCwDwEwFwGs0201032s0301002t06");
        Checks.same("the file", Towns.file(x), "0123456");
        Checks.due("come or not", x.about(6), 0);
        Checks.due("a cell and the start", x.exchange(0, 6), -11);
        Checks.same("street 1", Towns.cells(x, 1), "..6");
        Checks.due("walkerOf(0, 1)", x.walkerOf(0, 1), 0);
        Checks.due("a crowd and a cell", x.exchange(4, 1), -5);
        Checks.due("walkerOf(4, 1)", x.walkerOf(4, 1), 2);
        Checks.due("within a crowd", x.exchange(4, 2), 1);
        Checks.same("the file", Towns.file(x), "6243150");
        Checks.due("and again", x.exchange(0, 6), 11);
        x.ticks(2);
        Checks.due("who has come", x.walkerOf(0, 1), 3);
        Checks.index("exchange(0, 7)", () -> x.exchange(0, 7));
        Checks.index("exchange(-1, 0)", () -> x.exchange(-1, 0));
        Checks.index("exchange(7, 7)", () -> x.exchange(7, 7));
        Checks.index("exchange(LOW, HIGH)", () -> x.exchange(LOW, HIGH));
        Checks.argument("exchange(0, 0), who has come", () -> x.exchange(0, 0));
        Checks.argument("exchange(3, 3)", () -> x.exchange(3, 3));
        Checks.state("exchange(0, 3)", () -> x.exchange(0, 3));
        Checks.state("exchange(3, 0)", () -> x.exchange(3, 0));
        Checks.due("undo()", x.undo(), 4);
    }

    private static void promise17() {
        PlacardWalkers x = Towns.of("WwAwBwCwDwEs0201002r3m1t05x34");
        Checks.due("away", 5 - x.about(3), 5);
        Checks.due("back()", x.back(), 5);
        Checks.same("the file", Towns.file(x), "01234");
        about(x, 5, 1, 5, 5, 0, 0, 0, 0, 5, 5, 0, 3, 1);
        walkerOf(x, 0, 0, 0, NONE, NONE, 0, NONE);
        Checks.due("read", x.streetOf(0, 8), 0);
        Checks.same("cells", Towns.cells(x, 0), "..");
        Checks.due("back() again", x.back(), 0);
        Checks.due("undo()", x.undo(), 1);
        Checks.due("undo()", x.undo(), 0);
        Checks.due("come again", x.about(6), 2);
        PlacardWalkers y = Towns.of("WwAwBwCx02s0201001t01");
        Checks.due("back() of one", y.back(), 1);
        Checks.same("the order of their numbers", Towns.file(y), "012");
        Checks.due("back() of nobody", new PlacardWalkers().back(), 0);
        drawsGoOnAfterBack();
    }

    /** If x were 1 again, the second round would be drawn as the first one. */
    private static void drawsGoOnAfterBack() {
        PlacardWalkers x = Towns.of("WwAwBwCwDwEwFs0201196r3t40");
        long drawn = 1;
        drawn = drawn * 6364136223846793005L + 1442695040888963407L;
        Checks.due("the first draw", x.read(0, 0), (int) (drawn >>> 33) % 6);
        drawn = drawn * 6364136223846793005L + 1442695040888963407L;
        x.back();
        x.ticks(20);
        drawn = drawn * 6364136223846793005L + 1442695040888963407L;
        Checks.due("the draw after back()", x.read(0, 0), (int) (drawn >>> 33) % 6);
    }

    private static void promise18() {
        PlacardWalkers x = new PlacardWalkers();
        Checks.due("set(0, 3)", x.set(0, 3), 0);
        Checks.due("set(0, 2)", x.set(0, 2), 3);
        Checks.due("set(1, 1)", x.set(1, 1), 0);
        Checks.due("set(1, 1)", x.set(1, 1), 1);
        Checks.due("about(11)", x.about(11), 2);
        Checks.due("about(12)", x.about(12), 1);
        int[][] wrong = {{0, -1}, {0, 4}, {1, -1}, {1, 2}, {2, 0}, {-1, 0}, {LOW, 0}, {HIGH, 1}, {0, HIGH}, {1, LOW}};
        for (int[] w : wrong) {
            Checks.argument("set(" + w[0] + ", " + w[1] + ")", () -> x.set(w[0], w[1]));
        }
        Checks.due("undo()", x.undo(), 3);
        Checks.due("undo()", x.undo(), 2);
        Checks.due("about(12)", x.about(12), 0);
    }

    private static void promise19() {
        PlacardWalkers x = Towns.of("WwAwBwCs0201001");
        String[] cells = {"0.", "10", "21", ".2", "..", ".."};
        String[] come = {"", "", "", "0", "01", "012"};
        for (int i = 0; i < 6; i++) {
            Checks.due("ticks(1)", x.ticks(1), i < 3 ? 0 : 1);
            Checks.same("the cells", Towns.cells(x, 0), cells[i]);
            Checks.same("read", Towns.read(x, 0), come[i]);
        }
        Checks.due("walkerOf(2, 5)", x.walkerOf(2, 5), 6);
        Checks.due("ticks(99)", x.ticks(99), 0);
        Checks.due("time", x.about(2), 105);
        Checks.due("ticks(5) of all", Towns.of("WwAwBwCs0201001").ticks(5), 2);
        for (int n : new int[] {0, -1, 100, LOW, HIGH}) {
            Checks.argument("ticks(" + n + ")", () -> x.ticks(n));
        }
        Checks.due("undo()", x.undo(), 6);
        PlacardWalkers alone = Towns.of("WwA");
        Checks.due("ticks(3) without streets", alone.ticks(3), 0);
        about(alone, 1, 0, 3, 1, 0, 0, 0);
    }

    private static void promise19Lights() {
        PlacardWalkers x = Towns.of("WwAwBwCwDs0202036t30");
        Checks.same("when they came", comeTimes(x), "[5, 6, 10, 11]");
        PlacardWalkers y = Towns.of("WwAwBwCwDs0202036b001t30");
        Checks.same("with the shift 1", comeTimes(y), "[4, 5, 9, 10]");
        PlacardWalkers z = Towns.of("WwAs0201201t21");
        Checks.same("at the time 21", comeTimes(z), "[21]");
    }

    private static String comeTimes(PlacardWalkers x) {
        int[] times = new int[x.about(0)];
        for (int k = 0; k < times.length; k++) {
            times[k] = x.walkerOf(k, 5);
        }
        return java.util.Arrays.toString(times);
    }

    private static void promise19Rules() {
        String crowd = "WwAwBwCx01s0201056";
        Checks.same("rule 0", Towns.read(Towns.of(crowd + "r0t18"), 0), "102");
        Checks.same("rule 1", Towns.read(Towns.of(crowd + "r1t18"), 0), "201");
        Checks.same("rule 2", Towns.read(Towns.of(crowd + "r2t18"), 0), "012");
        PlacardWalkers x = Towns.of(crowd + "r1t06");
        Checks.same("the file when the last one has left", Towns.file(x), "210");
    }

    private static void promise19Draws() {
        PlacardWalkers x = Towns.of("WwAwBwCwDwEwFs0201196r3t99t21");
        java.util.List<Integer> crowd = new java.util.ArrayList<>(java.util.List.of(0, 1, 2, 3, 4, 5));
        StringBuilder want = new StringBuilder();
        long drawn = 1;
        while (!crowd.isEmpty()) {
            drawn = drawn * 6364136223846793005L + 1442695040888963407L;
            want.append(crowd.remove((int) (drawn >>> 33) % crowd.size()));
        }
        Checks.same("drawn", Towns.read(x, 0), want.toString());
        drawsOnlyForThoseWhoLeave();
        PlacardWalkers made = new PlacardWalkers();
        for (int k = 0; k < 6; k++) {
            made.walker(k);
        }
        made.street(2, 1, 19, 6);
        made.set(0, 3);
        made.ticks(99);
        made.ticks(21);
        Checks.same("drawn without load()", Towns.read(made, 0), want.toString());
    }

    /** Three leave before the next street is full, each the only one of its crowd; at 21 it lets one out. */
    private static void drawsOnlyForThoseWhoLeave() {
        PlacardWalkers x = Towns.of("WwAwBwCwDwEwFs0201006s0201201r3t20");
        Checks.same("read until it is full", Towns.read(x, 0), "012");
        long drawn = 1;
        for (int i = 0; i < 5; i++) {
            drawn = drawn * 6364136223846793005L + 1442695040888963407L;
        }
        x.ticks(1);
        Checks.same("read at the last corner", Towns.read(x, 1), "0");
        Checks.due("the fifth draw", x.read(0, 3), 3 + (int) (drawn >>> 33) % 3);
    }

    private static void promise19Crowds() {
        PlacardWalkers x = Towns.of("WwAwBwCwDwEwFs0201202t12");
        Checks.due("the crowd", x.streetOf(0, 6), 2);
        Checks.same("those who can't join", Towns.cells(x, 0), "32");
        Checks.due("the start", x.about(3), 2);
        x.ticks(9);
        Checks.same("one has come, all move up", Towns.file(x) + " " + Towns.cells(x, 0), "012345 43");
        Checks.due("the crowd", x.streetOf(0, 6), 2);
        PlacardWalkers y = Towns.of("WwAwBwCwDwEs0201003s0201201t20");
        Checks.same("the next street is full", Towns.cells(y, 1) + y.streetOf(1, 6), "211");
        Checks.due("nobody leaves", y.streetOf(0, 6), 2);
        y.ticks(1);
        Checks.same("the last street moves first", Towns.cells(y, 1) + Towns.cells(y, 0) + y.about(6), "32..1");
    }

    private static void promise19Mixing() {
        PlacardWalkers x = Towns.of("WwAwBwCwDx03x12s0601001m1");
        Checks.same("the file", Towns.file(x), "3210");
        x.ticks(2);
        Checks.same("who comes in is not changed in the same tick", Towns.cells(x, 0), "23....");
        x.ticks(1);
        Checks.same("changed", Towns.cells(x, 0), "132...");
        x.ticks(1);
        Checks.same("the farthest ahead alone", Towns.cells(x, 0), "0312..");
        x.set(1, 0);
        x.ticks(1);
        Checks.same("not without the setting", Towns.cells(x, 0), ".0312.");
        PlacardWalkers several = Towns.of("WwAwBwCwDx03x12s0601001t04m1t01");
        Checks.same("of several the farthest ahead", Towns.cells(several, 0), ".0132.");
        PlacardWalkers gap = Towns.of("WwAs0601001t02wBx01m1t01");
        Checks.same("not with a gap between", Towns.cells(gap, 0), "0.1...");
        PlacardWalkers corner = Towns.of("WwAwBs0201011s0201011x01m1t04");
        Checks.same("not over a corner", Towns.cells(corner, 1) + Towns.cells(corner, 0), "1...");
        Checks.due("not in a crowd", corner.walkerOf(0, 1), 2);
        PlacardWalkers both = Towns.of("WwAwBwCwDwEwFx05x14x23s0401001s0601001t07m1t01");
        Checks.same("on each street", Towns.cells(both, 1) + " " + Towns.cells(both, 0), "354... ..10");
    }

    private static void promise20() {
        PlacardWalkers x = Towns.of("WwAwBs0201001");
        Checks.state("undo()", x::undo);
        String[] looks = new String[20];
        for (int i = 0; i < 20; i++) {
            looks[i] = Towns.look(x);
            x.shift(0, i);
            x.about(3);
            x.save(0);
            x.allIn();
        }
        for (int left = 13; left >= 0; left--) {
            Checks.due("undo()", x.undo(), left);
            Checks.same("the state", Towns.look(x), looks[left + 6]);
        }
        Checks.state("undo() of the 15th", x::undo);
        PlacardWalkers y = Towns.of("WwAwBwCx02s0201001m1r3");
        y.ticks(5);
        String before = Towns.look(y);
        y.back();
        Checks.due("undo()", y.undo(), 1);
        Checks.same("the state", Towns.look(y), before);
        y.ticks(1);
        y.undo();
        y.walker(3);
        Checks.due("undo() of the walker", y.undo(), 1);
        Checks.same("the state", Towns.look(y), before);
        undoTakesBackDraws();
        undoTakesBackWhatWasRead();
    }

    private static void undoTakesBackWhatWasRead() {
        PlacardWalkers x = Towns.of("WwAwBs0201001t05");
        x.back();
        x.exchange(0, 1);
        x.ticks(5);
        Checks.same("read the other way round", Towns.read(x, 0), "10");
        x.undo();
        x.undo();
        Checks.same("read after back()", Towns.read(x, 0), "");
        x.undo();
        Checks.same("read at first", Towns.read(x, 0), "01");
    }

    private static void undoTakesBackDraws() {
        PlacardWalkers x = Towns.of("WwAwBwCwDwEwFs0201196r3t19");
        x.ticks(1);
        String once = Towns.look(x);
        x.undo();
        x.ticks(1);
        Checks.same("drawn again", Towns.look(x), once);
        x.ticks(99);
        x.ticks(1);
        String end = Towns.look(x);
        x.undo();
        x.undo();
        x.ticks(99);
        x.ticks(1);
        Checks.same("all drawn again", Towns.look(x), end);
    }

    private static void promise21() {
        Checks.due("nobody", Towns.of("Ws0201001").allIn(), 0);
        Checks.due("without streets", Towns.of("WwA").allIn(), NONE);
        PlacardWalkers x = Towns.of("WwAwBwCs0201001");
        String before = Towns.look(x);
        Checks.due("allIn()", x.allIn(), 6);
        Checks.same("the state", Towns.look(x), before);
        Checks.state("undo()", x::undo);
        x.ticks(2);
        Checks.due("allIn()", x.allIn(), 4);
        x.ticks(4);
        Checks.due("allIn()", x.allIn(), 0);
        PlacardWalkers y = Towns.of("WwAwBwCwDwEwFwGwHwIwJs2001201s2001191s2001181s2001171");
        int ticks = y.allIn();
        int came = 0;
        for (int i = 0; i < ticks; i++) {
            Checks.due("come before", came < 10 ? 1 : 0, 1);
            came += y.ticks(1);
        }
        Checks.due("come then", came, 10);
    }

    private static void promise22() {
        PlacardWalkers x = Towns.of("WwAwBwCwDwEx03x14s0301052s0402033r3m1t03");
        String before = Towns.look(x);
        for (int n : new int[] {1, 2, 7, 20, 45}) {
            PlacardWalkers y = Towns.of("WwAwBwCwDwEx03x14s0301052s0402033r3m1t03");
            y.ticks(n);
            for (int what = 3; what <= 10; what++) {
                Checks.due("later(" + n + ", " + what + ")", x.later(n, what), y.about(what));
            }
        }
        Checks.due("later(500, 6)", x.later(500, 6), 5);
        Checks.same("the state", Towns.look(x), before);
        Checks.state("undo()", x::undo);
        for (int n : new int[] {0, -1, 501, LOW, HIGH}) {
            Checks.argument("later(" + n + ", 3)", () -> x.later(n, 3));
        }
        for (int what : new int[] {2, 11, -1, LOW, HIGH}) {
            Checks.argument("later(1, " + what + ")", () -> x.later(1, what));
        }
    }

    private static void promise23() {
        Checks.due("the first one", Towns.of("WwAwBwCs0201056r1").bestRule(), 0);
        PlacardWalkers x = Towns.of("WwAwBwCx01s0201056r1");
        String before = Towns.look(x);
        Checks.due("the lowest number", x.bestRule(), 2);
        Checks.same("the state", Towns.look(x), before);
        Checks.due("the last one", Towns.of("WwAwBwCwDx01x12x23x02s0201193s0601196r1").bestRule(), bestByHand());
        Checks.due("nobody", new PlacardWalkers().bestRule(), 0);
        Checks.due("without streets", Towns.of("WwAwBx01r3").bestRule(), 0);
        Checks.state("undo()", x::undo);
    }

    private static int bestByHand() {
        int best = 0;
        int least = 100;
        for (int rule = 0; rule < 4; rule++) {
            PlacardWalkers x = Towns.of("WwAwBwCwDx01x12x23x02s0201193s0601196r" + rule);
            for (int i = 0; i < 10; i++) {
                x.ticks(99);
            }
            x.ticks(9);
            if (x.about(7) < least) {
                least = x.about(7);
                best = rule;
            }
        }
        return best;
    }

    private static void promise24() {
        PlacardWalkers x = Towns.of("WwAs0201051b003");
        String before = Towns.look(x);
        Checks.due("bestShift(0)", x.bestShift(0), 2);
        Checks.same("the state", Towns.look(x), before);
        Checks.due("when all have come", Towns.of("WwAs0201001b009t09").bestShift(0), 0);
        Checks.due("the greatest shifts too", Towns.of("WwAs0201201t18t99").bestShift(0), bestShiftByHand(0));
        PlacardWalkers y = Towns.of("WwAwBwCs0401071s0302092b106t04");
        for (int s = 0; s < 2; s++) {
            int best = 0;
            int least = HIGH;
            for (int shift = 0; shift < 40; shift++) {
                y.shift(s, shift);
                if (y.allIn() < least) {
                    least = y.allIn();
                    best = shift;
                }
                y.undo();
            }
            Checks.due("bestShift(" + s + ")", y.bestShift(s), best);
        }
        Checks.due("a light of 40 ticks", Towns.of("Wt01wAs0220201").bestShift(0), 0);
        for (int s : new int[] {-1, 1, LOW, HIGH}) {
            Checks.index("bestShift(" + s + ")", () -> x.bestShift(s));
        }
        Checks.state("undo()", x::undo);
    }

    private static int bestShiftByHand(int s) {
        PlacardWalkers x = Towns.of("WwAs0201201t18t99");
        int best = 0;
        int least = HIGH;
        for (int shift = 0; shift < 40; shift++) {
            x.shift(s, shift);
            if (x.allIn() < least) {
                least = x.allIn();
                best = shift;
            }
        }
        return best;
    }

    private static void promise25() {
        PlacardWalkers x = Towns.of("WwAwBwCwDx03");
        String before = Towns.look(x);
        Checks.due("the lower", x.bestExchange(0), 0);
        Checks.due("the greater", x.bestExchange(1), 3);
        Checks.due("the gain", x.bestExchange(2), 5);
        Checks.same("the state", Towns.look(x), before);
        PlacardWalkers y = Towns.of("WwAwBwCwDx01x23");
        Checks.same("the lowest of equals", "" + y.bestExchange(0) + y.bestExchange(1) + y.bestExchange(2), "011");
        PlacardWalkers z = Towns.of("WwAwBwCx01x12");
        Checks.same("the file", Towns.file(z), "201");
        Checks.same("the lowest greater of equals", "" + z.bestExchange(0) + z.bestExchange(1) + z.bestExchange(2), "021");
        PlacardWalkers come = Towns.of("WwAwBwCx02s0201001t04");
        Checks.same("who has come is not exchanged", come.bestExchange(0) + " " + come.bestExchange(1), "0 1");
        PlacardWalkers[] mended = {new PlacardWalkers(), Towns.of("WwAwB"), Towns.of("WwAwBwCs0201001t04")};
        for (PlacardWalkers none : mended) {
            Checks.due("none", none.bestExchange(0), NONE);
            Checks.due("none", none.bestExchange(1), NONE);
            Checks.due("none", none.bestExchange(2), 0);
        }
        for (int what : new int[] {-1, 3, LOW, HIGH}) {
            Checks.argument("bestExchange(" + what + ")", () -> x.bestExchange(what));
        }
        Checks.state("undo()", x::undo);
    }

    private static void promise26() {
        PlacardWalkers x = Towns.of("WwAwBwCs0201001");
        String before = Towns.look(x);
        Checks.due("ticks, come", x.runScript(2, 100005_800002L), NONE);
        Checks.due("ticks, too few", x.runScript(2, 100005_800003L), 1);
        Checks.due("exchange, place", x.runScript(2, 202000_602000L), NONE);
        Checks.due("exchange, wrong pairs", x.runScript(3, 202000_700003_700002L), 2);
        Checks.due("exchange when one has come", x.runScript(2, 100004_201000L), 1);
        Checks.due("shift, ticks, in the crowd", x.runScript(3, 300039_100003_900002L), NONE);
        Checks.due("shift, set, back", x.runScript(3, 300000_410001_500000L), NONE);
        Checks.due("ticks, back, at the start", x.runScript(3, 100006_500000_900000L), NONE);
        Checks.due("ticks, back, have come", x.runScript(3, 100006_500000_800001L), 2);
        Checks.due("the script 0", x.runScript(3, 0), 0);
        Checks.due("fewer digits", x.runScript(3, 700000_700000L), 0);
        Checks.same("the state", Towns.look(x), before);
        Checks.state("undo()", x::undo);
        Checks.argument("n 0", () -> x.runScript(0, 0));
        Checks.argument("n 4", () -> x.runScript(4, 0));
        Checks.argument("n LOW", () -> x.runScript(LOW, 500000));
        Checks.argument("script -1", () -> x.runScript(1, -1));
        Checks.argument("script LOW", () -> x.runScript(3, Long.MIN_VALUE));
        Checks.argument("7 digits", () -> x.runScript(1, 1000000));
        Checks.argument("13 digits", () -> x.runScript(2, 1000000000000L));
        Checks.argument("19 digits", () -> x.runScript(3, 1000000000000000000L));
        Checks.argument("script HIGH", () -> x.runScript(3, Long.MAX_VALUE));
        Checks.due("18 digits", x.runScript(3, 999999999999999999L), 0);
    }

    /** On a town of three walkers, one of whom has come, and a street. */
    private static void promise26Groups() {
        PlacardWalkers x = Towns.of("WwAwBwCs0201001t04x12");
        int[] good = {100001, 100099, 212000, 221000, 300000, 300039, 400000, 400003, 410000, 410001, 500000, 600000,
            612000, 621000, 700001, 700099, 800000, 800001, 900003, 910001, 920002};
        for (int group : good) {
            Checks.due("runScript(1, " + group + ")", x.runScript(1, group), NONE);
        }
        int[] bad = {0, 1, 99999, 100000, 100101, 101001, 110001, 201000, 211000, 213000, 231000, 212001, 212010, 212100,
            310000, 300040, 300100, 301000, 400004, 410002, 420000, 400010, 400100, 401000, 500001, 500010, 500100,
            501000, 510000, 611000, 630000, 603000, 633000, 699000, 600001, 600010, 600100, 700000, 700101, 701001,
            710001, 800002, 800100, 801000, 810000, 900000, 910000, 930000, 990000, 900009, 910011, 910101, 911001};
        for (int group : bad) {
            Checks.due("runScript(1, " + group + ")", x.runScript(1, group), 0);
        }
    }

    private static void promise27() {
        for (String walk : new String[] {"W", "WwAwBwCwDwEs0301022", "WwAwAwBx02s0201001r3m1s0201016t05"}) {
            for (long seed : new long[] {0, 1, -1, 99, 123456789012345L, Long.MIN_VALUE, Long.MAX_VALUE}) {
                for (int m : new int[] {1, 2, 17, 60}) {
                    PlacardWalkers x = Towns.of(walk);
                    String before = Towns.look(x);
                    x.simulate(seed, m);
                    Checks.same("the state", Towns.look(x), before);
                    Checks.state("undo()", x::undo);
                    Simulations.same(walk, seed, m);
                }
            }
        }
        for (long seed = 0; seed < 2000; seed++) {
            Simulations.same("WwAwBwCwDwEwFwGx06x15x24s0201022", seed, 25);
        }
        PlacardWalkers x = new PlacardWalkers();
        for (int m : new int[] {0, -1, 61, LOW, HIGH}) {
            Checks.argument("simulate(1, " + m + ")", () -> x.simulate(1, m));
        }
    }

    private static void promise28() {
        PlacardWalkers x = Towns.of("WwAs0201001t02");
        Checks.due("save(0)", x.save(0), 2);
        Checks.state("undo(), for save is no action", x::undo);
        x.ticks(3);
        Checks.due("save(1)", x.save(1), 5);
        x.ticks(1);
        Checks.due("restore(0)", x.restore(0), 2);
        Checks.due("save(1) again", x.save(1), 2);
        Checks.due("restore(1)", x.restore(1), 2);
        for (int slot : new int[] {-1, 2, LOW, HIGH}) {
            Checks.index("save(" + slot + ")", () -> x.save(slot));
        }
    }

    private static void promise29() {
        PlacardWalkers x = Towns.of("WwAwBwCwDwEs0201056r3m1t06");
        for (int slot : new int[] {0, 1}) {
            Checks.state("restore(" + slot + ")", () -> x.restore(slot));
        }
        for (int slot : new int[] {-1, 2, LOW, HIGH}) {
            Checks.index("restore(" + slot + ")", () -> x.restore(slot));
        }
        x.save(1);
        String saved = Towns.look(x);
        Checks.state("restore(0)", () -> x.restore(0));
        x.ticks(30);
        String later = Towns.look(x);
        Checks.due("restore(1)", x.restore(1), 6);
        Checks.same("the state", Towns.look(x), saved);
        Checks.state("undo()", x::undo);
        x.ticks(30);
        Checks.same("the draws are the same", Towns.look(x), later);
        x.letter(0, 20);
        x.back();
        Checks.due("restore(1) again", x.restore(1), 6);
        Checks.same("the slot keeps it", Towns.look(x), saved);
        x.load();
        Checks.state("restore(1) after load", () -> x.restore(1));
    }
}
