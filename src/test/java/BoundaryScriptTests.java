/** The boundary cases that the promises 26 to 29 name, each sentence with a test of its own. */
final class BoundaryScriptTests {
    private static final int NONE = PlacardWalkers.NONE;
    private static final int LOW = Integer.MIN_VALUE;
    private static final int HIGH = Integer.MAX_VALUE;
    private static final String NINE = "WwAwBwCwDwEwFwGwHwI";
    private static final String TEN = NINE + "wJ";
    private static final String FOUR_STREETS = "s0201001s0201001s0201001s0201001";

    private BoundaryScriptTests() {
    }

    static void runAll() {
        scriptLength();
        firstThatFails();
        ticksAndExchanges();
        shiftsAndSettings();
        places();
        thresholds();
        otherGroups();
        simulateRange();
        simulateLeavesOut();
        save();
        restoreRefused();
        restore();
    }

    private static void scriptLength() {
        Checks.run("26: n is 1 to 3", () -> {
            PlacardWalkers x = new PlacardWalkers();
            for (int n : new int[] {0, -1, 4, LOW, HIGH}) {
                Checks.argument("runScript(" + n + ", 0)", () -> x.runScript(n, 0));
                Checks.argument("runScript(" + n + ", 500000)", () -> x.runScript(n, 500000));
            }
            Checks.due("one command", x.runScript(1, 500000), NONE);
            Checks.due("three commands", x.runScript(3, 500000_500000_500000L), NONE);
        });
        Checks.run("26: script has at most 6 * n digits", () -> {
            PlacardWalkers x = new PlacardWalkers();
            Checks.due("6 digits", x.runScript(1, 999999), 0);
            Checks.argument("7 digits", () -> x.runScript(1, 1000000));
            Checks.argument("7 digits", () -> x.runScript(1, 1500000));
            Checks.due("12 digits", x.runScript(2, 999999_999999L), 0);
            Checks.argument("13 digits", () -> x.runScript(2, 1_000000_000000L));
            Checks.argument("13 digits", () -> x.runScript(2, 1_500000_500000L));
            Checks.due("18 digits", x.runScript(3, 999999_999999_999999L), 0);
            Checks.argument("19 digits", () -> x.runScript(3, 1_000000_000000_000000L));
            Checks.argument("19 digits", () -> x.runScript(3, 1_500000_500000_500000L));
            Checks.argument("the greatest long", () -> x.runScript(3, Long.MAX_VALUE));
        });
        Checks.run("26: script is negative", () -> {
            PlacardWalkers x = new PlacardWalkers();
            for (int n = 1; n <= 3; n++) {
                int commands = n;
                for (long script : new long[] {-1, -500000, -500000_500000L, Long.MIN_VALUE}) {
                    Checks.argument("runScript(" + n + ", " + script + ")", () -> x.runScript(commands, script));
                }
            }
        });
        Checks.run("26: the script 0 and fewer digits", () -> {
            PlacardWalkers x = new PlacardWalkers();
            for (int n = 1; n <= 3; n++) {
                Checks.due("runScript(" + n + ", 0)", x.runScript(n, 0), 0);
            }
            Checks.due("one group of two", x.runScript(2, 500000), 0);
            Checks.due("two groups of three", x.runScript(3, 500000_500000L), 0);
            Checks.due("five digits", x.runScript(1, 50000), 0);
        });
    }

    private static void firstThatFails() {
        Checks.run("26: the index of the first command that fails, from 0", () -> {
            PlacardWalkers x = new PlacardWalkers();
            Checks.due("the first", x.runScript(3, 999999_999999_999999L), 0);
            Checks.due("the second", x.runScript(3, 500000_999999_999999L), 1);
            Checks.due("the third", x.runScript(3, 500000_500000_999999L), 2);
            Checks.due("the first of two good ones", x.runScript(3, 999999_500000_500000L), 0);
            Checks.due("the second of two", x.runScript(2, 500000_999999L), 1);
            Checks.due("none", x.runScript(2, 500000_500000L), NONE);
        });
        Checks.run("26: a command works on what those before have left", () -> {
            PlacardWalkers x = Towns.of("WwAwBs0201001");
            Checks.due("come behind 4 and 1 ticks", x.runScript(3, 100004_100001_800002L), NONE);
            Checks.due("not behind 4", x.runScript(2, 100004_800002L), 1);
            Checks.due("wrong behind exchange", x.runScript(2, 201000_700000L), 1);
            Checks.due("right behind two", x.runScript(3, 201000_201000_700000L), NONE);
        });
        Checks.run("26: a script begins anew each time", () -> {
            PlacardWalkers x = Towns.of("WwAwBs0201001");
            Checks.due("first", x.runScript(2, 100004_800001L), NONE);
            Checks.due("again", x.runScript(1, 800001), 0);
            Checks.due("time", x.about(2), 0);
        });
    }

    private static void good(PlacardWalkers x, int... groups) {
        for (int group : groups) {
            Checks.due("runScript(1, " + group + ")", x.runScript(1, group), NONE);
        }
    }

    private static void bad(PlacardWalkers x, int... groups) {
        for (int group : groups) {
            Checks.due("runScript(1, " + group + ")", x.runScript(1, group), 0);
        }
    }

    private static void ticksAndExchanges() {
        Checks.run("26: 1 0 0 0 n n: 01 to 99", () -> {
            PlacardWalkers x = new PlacardWalkers();
            good(x, 100001, 100009, 100010, 100099);
            bad(x, 100000);
        });
        Checks.run("26: 2 k l: walkers that do not exist", () -> {
            good(Towns.of(TEN), 209000, 290000, 298000);
            bad(Towns.of(NINE), 209000, 290000, 298000, 289000, 299000);
            good(Towns.of(NINE), 208000, 287000);
            bad(new PlacardWalkers(), 200000, 201000, 210000);
        });
        Checks.run("26: 2 k l: both are the same", () -> {
            bad(Towns.of(TEN), 200000, 211000, 299000);
        });
        Checks.run("26: 2 k l: one has come", () -> {
            PlacardWalkers x = Towns.of("WwAwBwCs0201001t04");
            bad(x, 201000, 210000, 202000, 220000);
            good(x, 212000, 221000);
        });
    }

    private static void shiftsAndSettings() {
        Checks.run("26: 3 s 0 0 b b: streets that do not exist", () -> {
            PlacardWalkers four = Towns.of("W" + FOUR_STREETS);
            good(four, 300000, 310000, 320000, 330000);
            bad(four, 340000, 350000, 390000);
            bad(Towns.of("Ws0201001"), 310000, 330000);
            bad(new PlacardWalkers(), 300000);
        });
        Checks.run("26: 3 s 0 0 b b: 00 to 39", () -> {
            PlacardWalkers four = Towns.of("W" + FOUR_STREETS);
            good(four, 300000, 300009, 300010, 300039, 330039);
            bad(four, 300040, 300099, 330040);
        });
        Checks.run("26: 4 w 0 0 0 v: 0 to 3 and 0 or 1", () -> {
            PlacardWalkers x = new PlacardWalkers();
            good(x, 400000, 400001, 400002, 400003, 410000, 410001);
            bad(x, 400004, 400009, 410002, 410003, 410009, 420000, 420001, 490000);
        });
        Checks.run("26: 5: also of nobody", () -> {
            good(new PlacardWalkers(), 500000);
            good(Towns.of(TEN + "s0201001t13"), 500000);
            Checks.due("nobody has come then", Towns.of(TEN + "s0201001t13").runScript(2, 500000_800001L), 1);
        });
    }

    private static void places() {
        Checks.run("26: 6 p k: places and walkers that do not exist", () -> {
            good(Towns.of(TEN), 600000, 699000);
            bad(Towns.of(NINE), 699000, 690000, 609000, 698000, 689000);
            good(Towns.of(NINE), 688000);
            bad(new PlacardWalkers(), 600000, 601000, 610000, 699000);
        });
        Checks.run("26: 6 p k: the walker at the place, not the place of the walker's number", () -> {
            PlacardWalkers x = Towns.of("WwAwBwCx01x12");
            Checks.same("the file", Towns.file(x), "201");
            good(x, 602000, 610000, 621000);
            bad(x, 620000, 601000, 612000, 600000, 611000, 622000);
        });
        Checks.run("26: 9 k 0 0 0 w: walkers that do not exist", () -> {
            good(Towns.of(TEN), 900000, 990000);
            bad(Towns.of(NINE), 990000, 990001, 990002, 990003, 990009);
            bad(new PlacardWalkers(), 900000, 900001, 900002, 900003, 900009);
        });
        Checks.run("26: 9 k 0 0 0 w: each w, and none above 3", () -> {
            PlacardWalkers x = Towns.of("WwAwBwCwDs0201001t04wE");
            int[] where = {3, 2, 1, 1, 0};
            for (int k = 0; k < 5; k++) {
                for (int w = 0; w <= 9; w++) {
                    int group = 900000 + 10000 * k + w;
                    Checks.due("runScript(1, " + group + ")", x.runScript(1, group), w == where[k] ? NONE : 0);
                }
            }
        });
    }

    private static void thresholds() {
        Checks.run("26: 7 0 0 0 n n: at most nn", () -> {
            PlacardWalkers x = Towns.of(TEN + "x09x18x27x36x45");
            good(x, 700045, 700046, 700099);
            bad(x, 700044, 700009, 700000);
            good(new PlacardWalkers(), 700000, 700001);
            PlacardWalkers one = Towns.of("WwAwBx01");
            good(one, 700001);
            bad(one, 700000);
        });
        Checks.run("26: 8 0 0 0 n n: at least nn", () -> {
            PlacardWalkers x = Towns.of(TEN + "s0201001t13");
            good(x, 800000, 800001, 800010);
            bad(x, 800011, 800020, 800099);
            good(new PlacardWalkers(), 800000);
            bad(new PlacardWalkers(), 800001);
        });
    }

    private static void otherGroups() {
        Checks.run("26: any other group", () -> {
            PlacardWalkers x = Towns.of(TEN + FOUR_STREETS);
            bad(x, 0, 1, 9, 10, 25, 100, 1000, 10000, 23000, 50000, 90000, 99999);
        });
        Checks.run("26: another digit where a 0 is written", () -> {
            String[] groups = {"1...25", "2  ...", "3 ..12", "4 ...1", "5.....", "6  ...", "7...50", "8...00", "9 ...0"};
            for (String group : groups) {
                String plain = group.replace("2  ", "235").replace("6  ", "644").replace(' ', '1').replace('.', '0');
                PlacardWalkers x = Towns.of(TEN + FOUR_STREETS);
                good(x, Integer.parseInt(plain));
                for (int at = 0; at < 6; at++) {
                    for (char digit = '1'; group.charAt(at) == '.' && digit <= '9'; digit++) {
                        bad(x, Integer.parseInt(plain.substring(0, at) + digit + plain.substring(at + 1)));
                    }
                }
            }
        });
    }

    private static void simulateRange() {
        Checks.run("27: m is 1 to 60", () -> {
            PlacardWalkers x = Towns.of(TEN + FOUR_STREETS);
            for (int m : new int[] {0, -1, 61, LOW, HIGH}) {
                Checks.argument("simulate(0, " + m + ")", () -> x.simulate(0, m));
                Checks.argument("simulate(-5, " + m + ")", () -> x.simulate(-5, m));
            }
        });
        Checks.run("27: m turns, not one more or fewer", () -> {
            for (int m = 1; m <= 60; m++) {
                Simulations.same("WwAwBwCwDwEx04x13s0201016", 31, m);
                Simulations.same("WwAwBwCwDwEx04x13s0201016", -7, m);
            }
        });
        Checks.run("27: any long", () -> {
            for (long seed : new long[] {0, 1, -1, HIGH, LOW, Long.MAX_VALUE, Long.MIN_VALUE, 1L << 32, -1L << 33}) {
                Simulations.same("W", seed, 60);
                Simulations.same(TEN + "x09x27s0201196r3t20", seed, 60);
            }
        });
    }

    private static void simulateLeavesOut() {
        Checks.run("27: leaves out the 11th walker", () -> {
            for (int seed = 0; seed < 40; seed++) {
                Simulations.same(TEN + "x09", seed, 60);
                Simulations.same(NINE + "x08", seed, 60);
            }
        });
        Checks.run("27: leaves out the 5th street, and one when anybody has come", () -> {
            for (int seed = 0; seed < 40; seed++) {
                Simulations.same("WwAwBx01" + FOUR_STREETS, seed, 60);
                Simulations.same("WwAwBx01s0201001t04", seed, 60);
            }
        });
        Checks.run("27: leaves out exchanges and shifts that are refused", () -> {
            for (int seed = 0; seed < 40; seed++) {
                Simulations.same("WwAwBwC", seed, 60);
                Simulations.same("WwAwBwCwDwEs0201201t21", seed, 60);
            }
        });
        Checks.run("27: 0 if nothing is there and nothing comes", () -> {
            int found = 0;
            for (long seed = 0; seed < 50; seed++) {
                int kind = (int) (seed * 6364136223846793005L + 1442695040888963407L >>> 33) % 8;
                if (kind > 0) {
                    Checks.due("simulate(" + seed + ", 1)", new PlacardWalkers().simulate(seed, 1), 0);
                    found++;
                } else {
                    Checks.due("simulate(" + seed + ", 1) of a walker", new PlacardWalkers().simulate(seed, 1), 1);
                }
            }
            Checks.due("found", found > 0 && found < 50 ? 1 : 0, 1);
        });
        Checks.run("27: all come the wrong way round", () -> {
            PlacardWalkers x = Towns.of("W" + "wA".repeat(10) + "x09x18x27x36x45s0201001t13");
            Checks.due("simulate(0, 1)", x.simulate(0, 1), 10 * 10000 + 45 * 100 + 10);
        });
    }

    private static void save() {
        Checks.run("28: the save slots 0 and 1", () -> {
            PlacardWalkers x = Towns.of("Wt07");
            for (int slot : new int[] {-1, 2, LOW, HIGH}) {
                Checks.index("save(" + slot + ")", () -> x.save(slot));
            }
            Checks.due("save(0)", x.save(0), 7);
            Checks.due("save(1)", x.save(1), 7);
        });
        Checks.run("28: the state of a new object", () -> {
            PlacardWalkers x = new PlacardWalkers();
            Checks.due("save(0)", x.save(0), 0);
            x.walker(1);
            x.ticks(5);
            Checks.due("restore(0)", x.restore(0), 0);
            Checks.due("about(0)", x.about(0), 0);
        });
        Checks.run("28: each slot alone, the newest state of each", () -> {
            PlacardWalkers x = new PlacardWalkers();
            x.ticks(1);
            x.save(0);
            x.ticks(1);
            x.save(1);
            x.ticks(1);
            x.save(0);
            x.ticks(1);
            Checks.due("restore(1)", x.restore(1), 2);
            Checks.due("restore(0)", x.restore(0), 3);
            Checks.due("time", x.about(2), 3);
        });
        Checks.run("28: later actions do not reach it", () -> {
            PlacardWalkers x = Twins.full();
            x.save(1);
            String saved = Towns.look(x);
            x.letter(0, 25);
            x.shift(3, 39);
            x.exchange(8, 7);
            x.set(0, 2);
            x.set(1, 1);
            x.ticks(99);
            x.back();
            x.restore(1);
            Checks.same("the state", Towns.look(x), saved);
        });
    }

    private static void restoreRefused() {
        Checks.run("29: there is no such save slot", () -> {
            PlacardWalkers x = Towns.of("Wt07");
            x.save(0);
            x.save(1);
            for (int slot : new int[] {-1, 2, LOW, HIGH}) {
                Checks.index("restore(" + slot + ")", () -> x.restore(slot));
                Checks.index("restore(" + slot + ") of a new object", () -> new PlacardWalkers().restore(slot));
            }
        });
        Checks.run("29: nothing has been saved in it", () -> {
            Checks.state("restore(0)", () -> new PlacardWalkers().restore(0));
            Checks.state("restore(1)", () -> new PlacardWalkers().restore(1));
            PlacardWalkers x = Towns.of("Wt07");
            x.save(1);
            Checks.state("restore(0) beside slot 1", () -> x.restore(0));
            PlacardWalkers y = Towns.of("Wt07");
            y.save(0);
            Checks.state("restore(1) beside slot 0", () -> y.restore(1));
        });
        Checks.run("29: since the last load", () -> {
            PlacardWalkers x = Towns.of("Wt07");
            x.save(0);
            x.save(1);
            x.load();
            Checks.state("restore(0)", () -> x.restore(0));
            Checks.state("restore(1)", () -> x.restore(1));
            x.ticks(1);
            x.save(0);
            Checks.due("restore(0)", x.restore(0), 8);
            Checks.state("restore(1)", () -> x.restore(1));
        });
        Checks.run("29: a load that is refused keeps what was saved", () -> {
            PlacardWalkers x = Towns.of("Wt07");
            x.save(0);
            x.append('t');
            Checks.state("load()", x::load);
            Checks.due("restore(0)", x.restore(0), 7);
        });
    }

    private static void restore() {
        Checks.run("29: forgets all remembered states", () -> {
            PlacardWalkers x = new PlacardWalkers();
            for (int i = 0; i < 20; i++) {
                x.ticks(1);
            }
            x.save(0);
            x.restore(0);
            Checks.state("undo()", x::undo);
            for (int i = 0; i < 3; i++) {
                x.ticks(1);
            }
            for (int left = 2; left >= 0; left--) {
                Checks.due("undo()", x.undo(), left);
            }
            Checks.state("undo()", x::undo);
            Checks.due("time", x.about(2), 20);
        });
        Checks.run("29: the save slot keeps it", () -> {
            PlacardWalkers x = Twins.full();
            x.save(0);
            String saved = Towns.look(x);
            for (int i = 0; i < 3; i++) {
                x.ticks(50);
                x.back();
                x.letter(i, 9);
                Checks.due("restore(0)", x.restore(0), 12);
                Checks.same("the state", Towns.look(x), saved);
            }
        });
        Checks.run("29: keeps the text and the other slot", () -> {
            PlacardWalkers x = Towns.of("Wt07");
            x.save(0);
            x.ticks(1);
            x.save(1);
            Towns.write(x, "WwA");
            x.restore(0);
            Checks.due("clearText()", x.clearText(), 3);
            Checks.due("restore(1)", x.restore(1), 8);
        });
        Checks.run("29: x too", () -> {
            PlacardWalkers x = Towns.of(TEN.substring(0, 13) + "s0201196r3t19");
            x.save(0);
            x.ticks(60);
            x.restore(0);
            x.ticks(1);
            Checks.due("the first draw", x.read(0, 0), Draws.place(1, 6));
        });
    }
}
