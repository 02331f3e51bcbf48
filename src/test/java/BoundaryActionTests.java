/** The boundary cases that the promises 12 to 18 and 20 name, each sentence with a test of its own. */
final class BoundaryActionTests {
    private static final int NONE = PlacardWalkers.NONE;
    private static final int LOW = Integer.MIN_VALUE;
    private static final int HIGH = Integer.MAX_VALUE;
    private static final String TEN = "WwAwBwCwDwEwFwGwHwIwJ";

    private BoundaryActionTests() {
    }

    static void runAll() {
        walker();
        walkerBehindAllOthers();
        streetRanges();
        streetRefused();
        shift();
        letter();
        exchangeRefused();
        exchange();
        back();
        backKeeps();
        set();
        undoDepth();
        undoOfWhat();
        undoneActions();
    }

    private static void walker() {
        Checks.run("12: letter is 0 to 25", () -> {
            PlacardWalkers x = new PlacardWalkers();
            for (int letter : new int[] {-1, 26, 65, 255, LOW, HIGH}) {
                Checks.argument("walker(" + letter + ")", () -> x.walker(letter));
            }
            Checks.due("walker(0)", x.walker(0), 0);
            Checks.due("walker(25)", x.walker(25), 1);
            Checks.due("walkerOf(0, 0)", x.walkerOf(0, 0), 0);
            Checks.due("walkerOf(1, 0)", x.walkerOf(1, 0), 25);
        });
        Checks.run("12: the walkers are numbered 0 to 9", () -> {
            PlacardWalkers x = new PlacardWalkers();
            for (int k = 0; k <= 9; k++) {
                Checks.due("walker(3)", x.walker(3), k);
                Checks.due("about(0)", x.about(0), k + 1);
            }
        });
        Checks.run("12: there are 10", () -> {
            PlacardWalkers x = Towns.of(TEN);
            Checks.state("walker(0)", () -> x.walker(0));
            Checks.state("walker(25)", () -> x.walker(25));
            Checks.due("about(0)", x.about(0), 10);
        });
        Checks.run("12: those who have come count too", () -> {
            PlacardWalkers x = Towns.of(TEN + "s0201001t13");
            Checks.due("about(6)", x.about(6), 10);
            Checks.state("walker(0)", () -> x.walker(0));
            x.back();
            Checks.state("walker(0) after back()", () -> x.walker(0));
        });
        Checks.run("12: out of range comes before full", () -> {
            PlacardWalkers x = Towns.of(TEN);
            Checks.argument("walker(26)", () -> x.walker(26));
            Checks.argument("walker(-1)", () -> x.walker(-1));
        });
    }

    private static void walkerBehindAllOthers() {
        Checks.run("12: behind all others at the start", () -> {
            PlacardWalkers x = Towns.of("WwAwBwCx02s0201001t01");
            Checks.due("walker(3)", x.walker(3), 3);
            Checks.same("the file", Towns.file(x), "2103");
            x.ticks(3);
            Checks.same("the cells", Towns.cells(x, 0) + x.about(3), "300");
        });
        Checks.run("12: when nobody is at the start", () -> {
            PlacardWalkers x = Towns.of("WwAwBs0201001t09");
            Checks.due("walker(3)", x.walker(3), 2);
            Checks.same("the file", Towns.file(x), "012");
            Checks.due("walkerOf(2, 1)", x.walkerOf(2, 1), 0);
            Checks.due("walkerOf(2, 5)", x.walkerOf(2, 5), NONE);
            x.ticks(1);
            Checks.due("cell(0, 0)", x.cell(0, 0), 2);
        });
        Checks.run("12: a number that undo has freed", () -> {
            PlacardWalkers x = Towns.of(TEN.substring(0, 19));
            Checks.due("walker(3)", x.walker(3), 9);
            x.undo();
            Checks.due("walker(4)", x.walker(4), 9);
            Checks.due("walkerOf(9, 0)", x.walkerOf(9, 0), 4);
        });
    }

    private static void streetRanges() {
        int[] least = {2, 1, 0, 1};
        int[] greatest = {20, 20, 20, 6};
        String[] names = {"cells are 2 to 20", "green is 1 to 20", "red is 0 to 20", "the width is 1 to 6"};
        for (int i = 0; i < 4; i++) {
            int which = i;
            Checks.run("13: " + names[i], () -> {
                for (int v : new int[] {least[which] - 1, greatest[which] + 1, LOW, HIGH, -greatest[which]}) {
                    int[] low = least.clone();
                    int[] high = greatest.clone();
                    low[which] = v;
                    high[which] = v;
                    PlacardWalkers x = new PlacardWalkers();
                    Checks.argument(names[which] + ", not " + v, () -> x.street(low[0], low[1], low[2], low[3]));
                    Checks.argument(names[which] + ", not " + v, () -> x.street(high[0], high[1], high[2], high[3]));
                    Checks.due("about(1)", x.about(1), 0);
                }
                for (int v : new int[] {least[which], least[which] + 1, greatest[which]}) {
                    int[] good = {5, 6, 7, 3};
                    good[which] = v;
                    PlacardWalkers x = new PlacardWalkers();
                    Checks.due("street() with " + v, x.street(good[0], good[1], good[2], good[3]), 0);
                    int[] what = {0, 1, 2, 4};
                    for (int j = 0; j < 4; j++) {
                        Checks.due("streetOf(0, " + what[j] + ")", x.streetOf(0, what[j]), good[j]);
                    }
                    Checks.due("its shift", x.streetOf(0, 3), 0);
                }
            });
        }
    }

    private static void streetRefused() {
        Checks.run("13: there are 4", () -> {
            PlacardWalkers x = new PlacardWalkers();
            for (int s = 0; s < 4; s++) {
                Checks.due("street()", x.street(2 + s, 1, 0, 1), s);
            }
            Checks.state("street()", () -> x.street(2, 1, 0, 1));
            Checks.due("about(1)", x.about(1), 4);
            Checks.due("streetOf(3, 0)", x.streetOf(3, 0), 5);
        });
        Checks.run("13: anybody has come", () -> {
            PlacardWalkers x = Towns.of("WwAwBs0201001t03");
            x.ticks(1);
            Checks.state("street()", () -> x.street(2, 1, 0, 1));
            x.undo();
            Checks.due("street() when nobody has", x.street(2, 1, 0, 1), 1);
            x.ticks(1);
            Checks.due("walkerOf(0, 2)", x.walkerOf(0, 2), 1);
            Checks.due("street() when one was read, but nobody has come", x.street(2, 1, 0, 1), 2);
        });
        Checks.run("13: nobody has come any more", () -> {
            PlacardWalkers x = Towns.of("WwAs0201001t04");
            x.back();
            Checks.due("street()", x.street(2, 1, 0, 1), 1);
        });
        Checks.run("13: out of range comes before 4 and before come", () -> {
            PlacardWalkers four = Twins.full();
            PlacardWalkers come = Towns.of("WwAs0201001t04");
            for (PlacardWalkers x : new PlacardWalkers[] {four, come}) {
                Checks.argument("street(1, 1, 0, 1)", () -> x.street(1, 1, 0, 1));
                Checks.argument("street(2, 21, 0, 1)", () -> x.street(2, 21, 0, 1));
                Checks.argument("street(2, 1, -1, 1)", () -> x.street(2, 1, -1, 1));
                Checks.argument("street(2, 1, 0, 7)", () -> x.street(2, 1, 0, 7));
            }
        });
        Checks.run("13: behind the last one, empty and not read", () -> {
            PlacardWalkers x = Towns.of("WwAwBs0201002t03");
            x.street(3, 1, 0, 1);
            for (int what = 5; what <= 9; what++) {
                Checks.due("streetOf(1, " + what + ")", x.streetOf(1, what), what == 7 ? 1 : 0);
            }
            Checks.same("the file", Towns.file(x), "01");
            x.ticks(1);
            Checks.same("the cells", Towns.cells(x, 1), "0..");
        });
    }

    private static void shift() {
        Checks.run("14: there is no such street", () -> {
            PlacardWalkers one = Towns.of("Ws0201001");
            PlacardWalkers four = Twins.full();
            for (int s : new int[] {-1, 4, LOW, HIGH}) {
                Checks.index("shift(" + s + ", 0)", () -> four.shift(s, 0));
            }
            Checks.index("shift(1, 0)", () -> one.shift(1, 0));
            Checks.due("shift(3, 1)", four.shift(3, 1), 0);
        });
        Checks.run("14: shift is 0 to 39", () -> {
            PlacardWalkers x = Towns.of("Ws0201001s0201001");
            for (int shift : new int[] {-1, 40, 41, LOW, HIGH}) {
                Checks.argument("shift(0, " + shift + ")", () -> x.shift(0, shift));
                Checks.argument("shift(1, " + shift + ")", () -> x.shift(1, shift));
            }
            Checks.due("shift(1, 39)", x.shift(1, 39), 0);
            Checks.due("shift(1, 0)", x.shift(1, 0), 39);
            Checks.due("shift(1, 1)", x.shift(1, 1), 0);
            Checks.due("streetOf(1, 3)", x.streetOf(1, 3), 1);
            Checks.due("streetOf(0, 3)", x.streetOf(0, 3), 0);
        });
        Checks.run("14: no such street comes before the shift", () -> {
            PlacardWalkers x = Towns.of("Ws0201001");
            Checks.index("shift(1, 40)", () -> x.shift(1, 40));
            Checks.index("shift(-1, -1)", () -> x.shift(-1, -1));
        });
        Checks.run("14: also when somebody has come", () -> {
            Checks.due("shift(0, 5)", Towns.of("WwAs0201001t04").shift(0, 5), 0);
        });
    }

    private static void letter() {
        Checks.run("15: there is no such walker", () -> {
            PlacardWalkers x = Towns.of("WwAwB");
            PlacardWalkers ten = Towns.of(TEN);
            for (int k : new int[] {-1, 2, 9, LOW, HIGH}) {
                Checks.index("letter(" + k + ", 0)", () -> x.letter(k, 0));
            }
            Checks.index("letter(10, 0)", () -> ten.letter(10, 0));
            Checks.due("letter(9, 0)", ten.letter(9, 0), 9);
        });
        Checks.run("15: letter is 0 to 25", () -> {
            PlacardWalkers x = Towns.of("WwAwB");
            for (int letter : new int[] {-1, 26, LOW, HIGH}) {
                Checks.argument("letter(1, " + letter + ")", () -> x.letter(1, letter));
            }
            Checks.due("letter(1, 25)", x.letter(1, 25), 1);
            Checks.due("letter(1, 0)", x.letter(1, 0), 25);
            Checks.due("letter(1, 0)", x.letter(1, 0), 0);
            Checks.due("walkerOf(1, 0)", x.walkerOf(1, 0), 0);
        });
        Checks.run("15: no such walker comes before the letter", () -> {
            PlacardWalkers x = Towns.of("WwA");
            Checks.index("letter(1, 26)", () -> x.letter(1, 26));
            Checks.index("letter(-1, -1)", () -> x.letter(-1, -1));
        });
        Checks.run("15: also of a walker who has come", () -> {
            PlacardWalkers x = Towns.of("WwCs0201001t04");
            Checks.due("letter(0, 25)", x.letter(0, 25), 2);
            Checks.due("walkerOf(0, 0)", x.walkerOf(0, 0), 25);
        });
    }

    private static void exchangeRefused() {
        Checks.run("16: there is no such walker, for each of both", () -> {
            PlacardWalkers x = Towns.of("WwAwB");
            for (int k : new int[] {-1, 2, 9, LOW, HIGH}) {
                Checks.index("exchange(" + k + ", 0)", () -> x.exchange(k, 0));
                Checks.index("exchange(1, " + k + ")", () -> x.exchange(1, k));
            }
            PlacardWalkers ten = Towns.of(TEN);
            Checks.index("exchange(9, 10)", () -> ten.exchange(9, 10));
            Checks.index("exchange(10, 9)", () -> ten.exchange(10, 9));
        });
        Checks.run("16: both are the same", () -> {
            PlacardWalkers x = Towns.of(TEN);
            for (int k = 0; k < 10; k++) {
                int walker = k;
                Checks.argument("exchange(" + k + ", " + k + ")", () -> x.exchange(walker, walker));
            }
        });
        Checks.run("16: one of them has come", () -> {
            PlacardWalkers x = Towns.of("WwAwBwCwDs0201001t05");
            Checks.state("exchange(0, 1), both", () -> x.exchange(0, 1));
            Checks.state("exchange(1, 2), the first", () -> x.exchange(1, 2));
            Checks.state("exchange(2, 1), the second", () -> x.exchange(2, 1));
            Checks.due("exchange(2, 3), none", x.exchange(2, 3), -1);
        });
        Checks.run("16: no such walker, then the same, then come", () -> {
            PlacardWalkers x = Towns.of("WwAwBs0201001t04");
            Checks.index("exchange(2, 2)", () -> x.exchange(2, 2));
            Checks.index("exchange(-1, -1)", () -> x.exchange(-1, -1));
            Checks.index("exchange(0, 2), who has come with nobody", () -> x.exchange(0, 2));
            Checks.index("exchange(2, 0), nobody with who has come", () -> x.exchange(2, 0));
            Checks.argument("exchange(0, 0), who has come", () -> x.exchange(0, 0));
        });
    }

    private static void exchange() {
        Checks.run("16: fewer, and below 0 if they become more", () -> {
            PlacardWalkers x = Towns.of(TEN);
            Checks.due("the first with the last", x.exchange(0, 9), -17);
            Checks.due("and back", x.exchange(0, 9), 17);
            Checks.due("neighbours", x.exchange(5, 4), -1);
            Checks.due("and back", x.exchange(5, 4), 1);
            Checks.due("about(7)", x.about(7), 0);
        });
        Checks.run("16: wherever each is: all four kinds of places but come", () -> {
            PlacardWalkers x = Towns.of("WwAwBwCwDwEwFs0201006s0401201t07");
            Checks.same("the cells", Towns.cells(x, 1) + Towns.cells(x, 0), "3210" + ".5");
            Checks.due("in the crowd", x.walkerOf(4, 1), 2);
            x.walker(9);
            x.exchange(4, 6);
            Checks.due("from the crowd to the start", x.walkerOf(4, 1), 0);
            Checks.due("from the start to the crowd", x.walkerOf(6, 1), 2);
            x.exchange(0, 4);
            Checks.due("from the last cell to the start", x.walkerOf(0, 1), 0);
            Checks.due("from the start to the last cell", x.walkerOf(4, 3), 3);
            x.exchange(5, 4);
            Checks.same("from street to street", Towns.cells(x, 1) + Towns.cells(x, 0), "3215" + ".4");
        });
        Checks.run("16: those who were read stay read", () -> {
            PlacardWalkers x = Towns.of("WwAwBwCs0201006s2001001t04");
            x.exchange(0, 2);
            Checks.same("read", Towns.read(x, 0), "0");
            Checks.due("cell(1, 0)", x.cell(1, 0), 2);
        });
        Checks.run("16: letters go with their walkers", () -> {
            PlacardWalkers x = Towns.of("WwAwB");
            x.exchange(0, 1);
            Checks.due("walkerOf(0, 0)", x.walkerOf(0, 0), 0);
            Checks.due("walkerOf(1, 0)", x.walkerOf(1, 0), 1);
        });
    }

    private static void back() {
        Checks.run("17: nobody was not at the start", () -> {
            Checks.due("of nobody", new PlacardWalkers().back(), 0);
            Checks.due("of all at the start", Towns.of(TEN).back(), 0);
            Checks.due("without streets", Towns.of(TEN + "t99").back(), 0);
        });
        Checks.run("17: one, and all", () -> {
            Checks.due("one", Towns.of(TEN + "s0201001t01").back(), 1);
            Checks.due("nine", Towns.of(TEN + "s0201001t09").back(), 9);
            Checks.due("ten", Towns.of(TEN + "s0201001t10").back(), 10);
            Checks.due("ten who have come", Towns.of(TEN + "s0201001t13").back(), 10);
        });
        Checks.run("17: in the order of their numbers, also of those at the start", () -> {
            PlacardWalkers x = Towns.of(TEN + "x09x28");
            Checks.due("back()", x.back(), 0);
            Checks.same("the file", Towns.file(x), "0123456789");
            Checks.due("about(7)", x.about(7), 0);
        });
        Checks.run("17: nobody was read", () -> {
            PlacardWalkers x = Towns.of(TEN + "s0201001s0201001s0201001s0201001t30");
            x.back();
            for (int s = 0; s < 4; s++) {
                Checks.due("streetOf(" + s + ", 8)", x.streetOf(s, 8), 0);
                Checks.due("read(" + s + ", 0)", x.read(s, 0), NONE);
            }
            x.ticks(30);
            Checks.same("read again", Towns.read(x, 3), "0123456789");
        });
    }

    private static void backKeeps() {
        Checks.run("17: the time and the settings stay", () -> {
            PlacardWalkers x = Towns.of("WwAwBs0203041b017r3m1t09");
            x.back();
            Checks.due("time", x.about(2), 9);
            Checks.due("setting 0", x.about(11), 3);
            Checks.due("setting 1", x.about(12), 1);
            Checks.due("shift", x.streetOf(0, 3), 17);
        });
        Checks.run("17: x stays", () -> {
            PlacardWalkers x = Towns.of("WwAwBwCwDwEwFs0201196r3t20");
            x.back();
            x.ticks(20);
            Checks.due("the second draw", x.read(0, 0), Draws.place(2, 6));
        });
        Checks.run("17: who had come can be exchanged again", () -> {
            PlacardWalkers x = Towns.of("WwAwBs0201001t05");
            x.back();
            Checks.due("exchange(0, 1)", x.exchange(0, 1), -1);
        });
    }

    private static void set() {
        Checks.run("18: setting 0 is 0 to 3", () -> {
            PlacardWalkers x = new PlacardWalkers();
            for (int v : new int[] {-1, 4, LOW, HIGH}) {
                Checks.argument("set(0, " + v + ")", () -> x.set(0, v));
            }
            int before = 0;
            for (int v : new int[] {3, 2, 1, 0, 0, 3}) {
                Checks.due("set(0, " + v + ")", x.set(0, v), before);
                Checks.due("about(11)", x.about(11), v);
                before = v;
            }
            Checks.due("about(12)", x.about(12), 0);
        });
        Checks.run("18: setting 1 is 0 or 1", () -> {
            PlacardWalkers x = new PlacardWalkers();
            for (int v : new int[] {-1, 2, 3, LOW, HIGH}) {
                Checks.argument("set(1, " + v + ")", () -> x.set(1, v));
            }
            int before = 0;
            for (int v : new int[] {1, 0, 0, 1, 1}) {
                Checks.due("set(1, " + v + ")", x.set(1, v), before);
                Checks.due("about(12)", x.about(12), v);
                before = v;
            }
            Checks.due("about(11)", x.about(11), 0);
        });
        Checks.run("18: what is 0 or 1", () -> {
            PlacardWalkers x = new PlacardWalkers();
            for (int what : new int[] {-1, 2, LOW, HIGH}) {
                Checks.argument("set(" + what + ", 0)", () -> x.set(what, 0));
                Checks.argument("set(" + what + ", 1)", () -> x.set(what, 1));
            }
        });
    }

    private static void undoDepth() {
        Checks.run("20: none is remembered", () -> {
            Checks.state("of a new object", () -> new PlacardWalkers().undo());
            PlacardWalkers x = new PlacardWalkers();
            x.walker(0);
            Checks.due("undo()", x.undo(), 0);
            Checks.state("undo()", x::undo);
            Checks.due("about(0)", x.about(0), 0);
        });
        Checks.run("20: 14 states are remembered", () -> undoAll(14, 14));
        Checks.run("20: of 13 none is forgotten", () -> undoAll(13, 13));
        Checks.run("20: of 15 the oldest one is forgotten", () -> undoAll(15, 14));
        Checks.run("20: of 29 the fifteen oldest ones are forgotten", () -> undoAll(29, 14));
        Checks.run("20: behind some undone ones 14 again", () -> {
            PlacardWalkers x = ticked(14);
            for (int i = 0; i < 5; i++) {
                x.undo();
            }
            for (int i = 0; i < 10; i++) {
                x.ticks(1);
            }
            for (int left = 13; left >= 0; left--) {
                Checks.due("undo()", x.undo(), left);
                Checks.due("time", x.about(2), 5 + left);
            }
            Checks.state("undo()", x::undo);
        });
        Checks.run("20: undo is no action", () -> {
            PlacardWalkers x = ticked(3);
            Checks.due("undo()", x.undo(), 2);
            Checks.due("undo()", x.undo(), 1);
            Checks.due("time", x.about(2), 1);
        });
    }

    private static PlacardWalkers ticked(int actions) {
        PlacardWalkers x = new PlacardWalkers();
        for (int i = 0; i < actions; i++) {
            x.ticks(1);
        }
        return x;
    }

    private static void undoAll(int actions, int remembered) {
        PlacardWalkers x = ticked(actions);
        for (int left = remembered - 1; left >= 0; left--) {
            Checks.due("undo()", x.undo(), left);
            Checks.due("time", x.about(2), actions - remembered + left);
        }
        Checks.state("undo()", x::undo);
        Checks.due("time", x.about(2), actions - remembered);
    }

    private static void remembered(String name, Checks.Call call, PlacardWalkers x, int want) {
        call.answer();
        Checks.due("states remembered behind " + name, x.undo(), want - 1);
    }

    private static void undoOfWhat() {
        Checks.run("20: actions by which nothing becomes different", () -> {
            PlacardWalkers x = Towns.of("WwAs0201001");
            x.letter(0, 3);
            remembered("letter(0, 3)", () -> x.letter(0, 3), x, 2);
            remembered("shift(0, 0)", () -> x.shift(0, 0), x, 2);
            remembered("set(0, 0)", () -> x.set(0, 0), x, 2);
            remembered("set(1, 0)", () -> x.set(1, 0), x, 2);
            remembered("back()", x::back, x, 2);
            Checks.due("walkerOf(0, 0)", x.walkerOf(0, 0), 3);
            PlacardWalkers empty = new PlacardWalkers();
            remembered("back() of nobody", empty::back, empty, 1);
        });
        Checks.run("20: append, clearText, load that is refused and questions are no actions", () -> {
            PlacardWalkers x = ticked(2);
            x.append('w');
            Checks.state("load()", x::load);
            x.clearText();
            x.about(7);
            x.allIn();
            x.later(5, 3);
            x.bestRule();
            x.bestExchange(0);
            x.runScript(1, 500000);
            x.simulate(4, 20);
            Checks.due("undo()", x.undo(), 1);
        });
        Checks.run("20: save is no action, and undo keeps the slots", () -> {
            PlacardWalkers x = ticked(2);
            x.save(0);
            Checks.due("undo()", x.undo(), 1);
            Checks.due("restore(0)", x.restore(0), 2);
        });
        Checks.run("20: restore is no action, and forgets", () -> {
            PlacardWalkers x = ticked(2);
            x.save(0);
            x.restore(0);
            Checks.state("undo()", x::undo);
            x.ticks(1);
            Checks.due("undo() of what came then", x.undo(), 0);
        });
        Checks.run("20: undo keeps the text", () -> {
            PlacardWalkers x = ticked(1);
            Towns.write(x, "WwA");
            x.undo();
            Checks.due("clearText()", x.clearText(), 3);
        });
    }

    private static void undone(String name, PlacardWalkers x, Checks.Call call) {
        Checks.run("20: takes back " + name, () -> {
            String before = Towns.look(x);
            call.answer();
            Checks.due("undo()", x.undo(), 0);
            Checks.same("the state", Towns.look(x), before);
        });
    }

    private static void undoneActions() {
        String walk = "WwAwBwCwDwEwFs0201032s0301031r3m1t12";
        PlacardWalkers x = Towns.of(walk);
        undone("walker()", x, () -> x.walker(20));
        undone("shift()", x, () -> x.shift(1, 39));
        undone("letter()", x, () -> x.letter(5, 25));
        undone("exchange()", x, () -> x.exchange(x.file(4), x.file(5)));
        undone("back()", x, () -> x.back());
        undone("set() of setting 0", x, () -> x.set(0, 1));
        undone("set() of setting 1", x, () -> x.set(1, 0));
        undone("ticks()", x, () -> x.ticks(99));
        PlacardWalkers y = Towns.of(TEN + "s0201001s0201001s0201001t08");
        undone("street()", y, () -> y.street(20, 20, 20, 6));
        Checks.run("20: takes back x", () -> {
            PlacardWalkers z = Towns.of("WwAwBwCwDwEwFs0201196r3t19");
            z.ticks(1);
            z.undo();
            z.ticks(1);
            Checks.due("the first draw", z.read(0, 0), Draws.place(1, 6));
        });
        Checks.run("20: takes back who was read", () -> {
            PlacardWalkers z = Towns.of("WwAwBs0201001t05");
            z.back();
            z.exchange(0, 1);
            z.ticks(5);
            Checks.same("read the other way round", Towns.read(z, 0), "10");
            z.undo();
            z.undo();
            Checks.same("read by nobody", Towns.read(z, 0), "");
            z.undo();
            Checks.same("read at first", Towns.read(z, 0), "01");
        });
        Checks.run("20: an undone street is new when it comes again", () -> {
            PlacardWalkers z = Towns.of("WwAs0201001");
            z.street(2, 1, 0, 1);
            z.shift(1, 30);
            z.ticks(9);
            z.undo();
            z.undo();
            z.undo();
            Checks.due("street()", z.street(4, 1, 0, 1), 1);
            Checks.due("its shift", z.streetOf(1, 3), 0);
            Checks.due("read there", z.streetOf(1, 8), 0);
        });
    }
}
