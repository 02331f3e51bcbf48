/** The boundary cases that the promises 1 to 5 name, each sentence with a test of its own. */
final class BoundaryTextTests {
    private static final int NONE = PlacardWalkers.NONE;
    private static final int LOW = Integer.MIN_VALUE;
    private static final int HIGH = Integer.MAX_VALUE;
    private static final String DIGITS = "0123456789";
    private static final String LETTERS = "ABCDEFGHIJKLMNOPQRSTUVWXYZ";
    private static final String COMMANDS = "wsbrmxt";

    private BoundaryTextTests() {
    }

    static void runAll() {
        newObject();
        append();
        clearText();
        signsAllowed();
        textsCutShort();
        errorPositions();
        load();
        loadLeavesOut();
        loadedNumbers();
        loadRefused();
    }

    private static void newObject() {
        Checks.run("1: no walkers", () -> {
            PlacardWalkers x = new PlacardWalkers();
            Checks.due("about(0)", x.about(0), 0);
            Checks.index("walkerOf(0, 0)", () -> x.walkerOf(0, 0));
            Checks.index("file(0)", () -> x.file(0));
            Checks.index("letter(0, 0)", () -> x.letter(0, 0));
            Checks.index("exchange(0, 1)", () -> x.exchange(0, 1));
            Checks.index("exchange(0, 0)", () -> x.exchange(0, 0));
        });
        Checks.run("1: no streets", () -> {
            PlacardWalkers x = new PlacardWalkers();
            Checks.due("about(1)", x.about(1), 0);
            Checks.index("streetOf(0, 0)", () -> x.streetOf(0, 0));
            Checks.index("cell(0, 0)", () -> x.cell(0, 0));
            Checks.index("read(0, 0)", () -> x.read(0, 0));
            Checks.index("shift(0, 0)", () -> x.shift(0, 0));
            Checks.index("bestShift(0)", () -> x.bestShift(0));
        });
        Checks.run("1: all numbers are 0 at first", () -> {
            PlacardWalkers x = new PlacardWalkers();
            for (int what = 0; what <= 12; what++) {
                Checks.due("about(" + what + ")", x.about(what), 0);
            }
        });
        Checks.run("1: no text, no remembered state, no saved one", () -> {
            PlacardWalkers x = new PlacardWalkers();
            Checks.due("errorPosition()", x.errorPosition(), 0);
            Checks.state("load()", x::load);
            Checks.state("undo()", x::undo);
            Checks.state("restore(0)", () -> x.restore(0));
            Checks.state("restore(1)", () -> x.restore(1));
        });
        Checks.run("1: the first walker and the first street are 0", () -> {
            PlacardWalkers x = new PlacardWalkers();
            Checks.due("walker(25)", x.walker(25), 0);
            Checks.due("street(2, 1, 0, 1)", x.street(2, 1, 0, 1), 0);
            Checks.due("save(0)", x.save(0), 0);
        });
        Checks.run("1: x is 1", () -> {
            PlacardWalkers x = new PlacardWalkers();
            for (int k = 0; k < 6; k++) {
                x.walker(k);
            }
            x.street(2, 1, 19, 6);
            x.set(0, 3);
            x.ticks(20);
            Checks.due("the first draw", x.read(0, 0), Draws.place(1, 6));
        });
    }

    private static void append() {
        Checks.run("2: c is 0 to 255", () -> {
            PlacardWalkers x = new PlacardWalkers();
            for (int c : new int[] {-1, 256, 257, 65536 + 'W', 256 + 'W', 'W' - 256, LOW, HIGH}) {
                Checks.argument("append(" + c + ")", () -> x.append(c));
            }
            for (int c : new int[] {0, 1, 127, 128, 254, 255}) {
                x.clearText();
                Checks.due("append(" + c + ")", x.append(c), 1);
            }
        });
        Checks.run("2: the length from 1 to 120", () -> {
            PlacardWalkers x = new PlacardWalkers();
            for (int i = 1; i <= 120; i++) {
                Checks.due("append() as " + i, x.append(i), i);
            }
            Checks.due("clearText()", x.clearText(), 120);
        });
        Checks.run("2: no 121st character", () -> {
            PlacardWalkers x = new PlacardWalkers();
            Towns.write(x, Towns.LONGEST_WALK);
            Checks.state("append('r')", () -> x.append('r'));
            Checks.state("append('r') again", () -> x.append('r'));
            Checks.state("append(0)", () -> x.append(0));
            Checks.state("append(255)", () -> x.append(255));
            Checks.due("errorPosition()", x.errorPosition(), NONE);
            Checks.due("clearText()", x.clearText(), 120);
        });
        Checks.run("2: out of range comes before full", () -> {
            PlacardWalkers x = new PlacardWalkers();
            Towns.write(x, Towns.LONGEST_WALK);
            Checks.argument("append(256)", () -> x.append(256));
            Checks.argument("append(-1)", () -> x.append(-1));
        });
    }

    private static void clearText() {
        Checks.run("3: an empty text", () -> {
            PlacardWalkers x = new PlacardWalkers();
            Checks.due("clearText()", x.clearText(), 0);
            Checks.due("clearText()", x.clearText(), 0);
        });
        Checks.run("3: a full text, which then takes 120 again", () -> {
            PlacardWalkers x = new PlacardWalkers();
            Towns.write(x, Towns.LONGEST_WALK);
            Checks.due("clearText()", x.clearText(), 120);
            Checks.due("errorPosition()", x.errorPosition(), 0);
            Checks.due("clearText()", x.clearText(), 0);
            Towns.write(x, Towns.LONGEST_WALK);
            Checks.state("append('r')", () -> x.append('r'));
            Checks.due("errorPosition()", x.errorPosition(), NONE);
        });
        Checks.run("3: nothing of the old text comes back", () -> {
            PlacardWalkers x = new PlacardWalkers();
            Towns.write(x, "WwAwB");
            x.clearText();
            x.append('W');
            x.append('w');
            Checks.due("errorPosition()", x.errorPosition(), 2);
        });
    }

    private static void error(String walk, int want) {
        PlacardWalkers x = new PlacardWalkers();
        Towns.write(x, walk);
        Checks.due("errorPosition() of " + walk, x.errorPosition(), want);
    }

    /** Of all 256 signs behind a beginning: those that are allowed, and whether one of them ends a command. */
    private static void next(String name, String beginning, String allowed, boolean ends) {
        Checks.run("4: " + name + " behind '" + beginning + "'", () -> {
            for (char c = 0; c <= 255; c++) {
                int length = beginning.length() + 1;
                boolean good = allowed.indexOf(c) >= 0;
                error(beginning + c, !good ? length - 1 : ends ? NONE : length);
            }
        });
    }

    private static void signsAllowed() {
        next("the letter W", "", "W", true);
        next("a command", "W", COMMANDS, false);
        next("a command", "Wm1", COMMANDS, false);
        next("a command", "WwQ", COMMANDS, false);
        next("a command", "Ws0512034", COMMANDS, false);
        next("a capital letter", "Ww", LETTERS, true);
        next("a capital letter", "Wx12w", LETTERS, true);
        next("cells 02 to 20", "Ws", "012", false);
        next("cells 02 to 09", "Ws0", "23456789", false);
        next("cells 10 to 19", "Ws1", DIGITS, false);
        next("cells 20", "Ws2", "0", false);
        next("green 01 to 20", "Ws02", "012", false);
        next("green 01 to 09", "Ws020", "123456789", false);
        next("green 10 to 19", "Ws201", DIGITS, false);
        next("green 20", "Ws102", "0", false);
        next("red 00 to 20", "Ws0201", "012", false);
        next("red 00 to 09", "Ws20200", DIGITS, false);
        next("red 10 to 19", "Ws02011", DIGITS, false);
        next("red 20", "Ws02012", "0", false);
        next("a width 1 to 6", "Ws020100", "123456", true);
        next("a width 1 to 6", "Ws202020", "123456", true);
        next("a street 0 to 3", "Wb", "0123", false);
        next("a shift 00 to 39", "Wb0", "0123", false);
        next("a shift 00 to 09", "Wb30", DIGITS, true);
        next("a shift 10 to 19", "Wb01", DIGITS, true);
        next("a shift 30 to 39", "Wb33", DIGITS, true);
        next("setting 0 from 0 to 3", "Wr", "0123", true);
        next("setting 1 from 0 to 1", "Wm", "01", true);
        next("a walker 0 to 9", "Wx", DIGITS, false);
        next("another walker 0 to 9", "Wx9", DIGITS, true);
        next("ticks 01 to 99", "Wt", DIGITS, false);
        next("ticks 01 to 09", "Wt0", "123456789", true);
        next("ticks 10 to 19", "Wt1", DIGITS, true);
        next("ticks 90 to 99", "Wt9", DIGITS, true);
    }

    private static void textsCutShort() {
        for (String command : new String[] {"wA", "s0201001", "s2020206", "b339", "r3", "m1", "x98", "t99"}) {
            Checks.run("4: " + command + " that ends too soon", () -> {
                for (int signs = 1; signs < command.length(); signs++) {
                    error("W" + command.substring(0, signs), 1 + signs);
                    error("Wt01" + command.substring(0, signs), 4 + signs);
                }
                error("W" + command, NONE);
            });
        }
    }

    private static void errorPositions() {
        Checks.run("4: an empty text ends too soon", () -> error("", 0));
        Checks.run("4: the letter W alone is a walk", () -> error("W", NONE));
        Checks.run("4: the first of several errors", () -> {
            error("WwawbwC", 2);
            error("xx", 0);
            error("Wt00t00", 3);
            error("Wr4m2", 2);
        });
        Checks.run("4: no blanks", () -> {
            error(" WwA", 0);
            error("W wA", 1);
            error("Ww A", 2);
            error("WwA ", 3);
            error("Ws02 01001", 4);
        });
        Checks.run("4: a text of 120 characters", () -> {
            error(Towns.LONGEST_WALK, NONE);
            error("W" + "r0".repeat(59), NONE);
            error("W" + "r0".repeat(59) + "r", 120);
            error("W" + "r0".repeat(59) + "W", 119);
            error("W" + "r0".repeat(58) + "t00", 119);
            error("W" + "r0".repeat(58) + "x0", 119);
        });
    }

    private static void load() {
        Checks.run("5: the letter W alone makes everything new", () -> {
            PlacardWalkers x = Twins.busy();
            Towns.write(x, "W");
            Checks.due("load()", x.load(), 0);
            Checks.same("the state", Towns.look(x), Towns.look(new PlacardWalkers()));
            x.walker(0);
            Checks.due("rises", x.about(8), 1);
        });
        Checks.run("5: behind it no state is remembered", () -> {
            PlacardWalkers x = Twins.busy();
            Towns.write(x, "WwAwBs0201001b001r1m1x01t05");
            x.load();
            Checks.state("undo()", x::undo);
            x.set(0, 0);
            Checks.due("undo() of what came then", x.undo(), 0);
        });
        Checks.run("5: behind it both save slots are empty", () -> {
            PlacardWalkers x = Towns.of("WwA");
            x.save(0);
            x.save(1);
            x.load();
            Checks.state("restore(0)", () -> x.restore(0));
            Checks.state("restore(1)", () -> x.restore(1));
            x.save(1);
            Checks.state("restore(0) still", () -> x.restore(0));
            Checks.due("restore(1)", x.restore(1), 0);
        });
        Checks.run("5: keeps the text", () -> {
            PlacardWalkers x = Towns.of("WwAwBt07");
            x.ticks(5);
            Checks.due("load() again", x.load(), 0);
            Checks.due("time", x.about(2), 7);
            Checks.due("clearText()", x.clearText(), 8);
        });
        Checks.run("5: time, x and settings are as in a new object", () -> {
            PlacardWalkers x = Towns.of("WwAwBwCwDwEwFs0201196r3t99");
            x.set(1, 1);
            Towns.write(x, "WwAwBwCwDwEwFs0201196");
            x.load();
            Checks.due("time", x.about(2), 0);
            Checks.due("setting 0", x.about(11), 0);
            Checks.due("setting 1", x.about(12), 0);
            x.set(0, 3);
            x.ticks(20);
            Checks.due("the first draw", x.read(0, 0), Draws.place(1, 6));
        });
        Checks.run("5: a text of 120 characters", () -> {
            PlacardWalkers x = Towns.of(Towns.LONGEST_WALK);
            Checks.due("time", x.about(2), 1);
            PlacardWalkers y = new PlacardWalkers();
            Towns.write(y, "W" + "x00".repeat(39) + "r2");
            Checks.due("load()", y.load(), 39);
            Checks.due("setting 0", y.about(11), 2);
        });
    }

    private static void leavesOut(String walk, int want) {
        PlacardWalkers x = new PlacardWalkers();
        Towns.write(x, walk);
        Checks.due("load() of " + walk, x.load(), want);
    }

    private static void loadLeavesOut() {
        String tenWalkers = "WwAwBwCwDwEwFwGwHwIwJ";
        String fourStreets = "Ws0201001s0201001s0201001s0201001";
        Checks.run("5: leaves out the 11th walker", () -> {
            leavesOut(tenWalkers, 0);
            leavesOut(tenWalkers + "wZ", 1);
            leavesOut(tenWalkers + "wZwZt01wZ", 3);
            Checks.due("walkers", Towns.of(tenWalkers + "wZ").about(0), 10);
        });
        Checks.run("5: leaves out the 5th street", () -> {
            leavesOut(fourStreets, 0);
            leavesOut(fourStreets + "s2020206", 1);
            Checks.due("streets", Towns.of(fourStreets + "s2020206").about(1), 4);
        });
        Checks.run("5: leaves out a street when anybody has come", () -> {
            leavesOut("WwAs0201001t03s0201001", 0);
            leavesOut("WwAs0201001t04s0201001", 1);
        });
        Checks.run("5: leaves out a shift without the street", () -> {
            leavesOut("Wb000", 1);
            leavesOut("Ws0201001b000b100", 1);
            leavesOut(fourStreets + "b339", 0);
            leavesOut(fourStreets.substring(0, 25) + "b339", 1);
        });
        Checks.run("5: leaves out an exchange without the walkers", () -> {
            leavesOut("Wx01", 1);
            leavesOut("WwAx01x10", 2);
            leavesOut("WwAwBx01x10", 0);
            leavesOut(tenWalkers + "x98x09", 0);
            leavesOut(tenWalkers.substring(0, 19) + "x98x89", 2);
        });
        Checks.run("5: leaves out an exchange of one with itself", () -> {
            leavesOut("WwAwBx00x11x01", 2);
        });
        Checks.run("5: leaves out an exchange with one who has come", () -> {
            leavesOut("WwAwBwCs0201001t03x01", 0);
            leavesOut("WwAwBwCs0201001t04x01x20x12", 2);
        });
        Checks.run("5: settings and ticks are never left out", () -> {
            leavesOut("Wr0r3m0m1t01t99", 0);
        });
        Checks.run("5: a command that is left out changes nothing", () -> {
            Checks.same("the state", Towns.look(Towns.of("WwAwBx00s0201001x12b139t04x01s0201001")),
                Towns.look(Towns.of("WwAwBs0201001t04")));
        });
        Checks.run("5: what was there before is not counted", () -> {
            PlacardWalkers x = Twins.full();
            Towns.write(x, tenWalkers + fourStreets.substring(1));
            Checks.due("load()", x.load(), 0);
        });
        Checks.run("5: streets come new, also where there were some", () -> {
            PlacardWalkers x = Towns.of("WwAwBs0201001s0201001b017b138t09");
            Checks.due("read before", x.streetOf(1, 8), 2);
            Towns.write(x, "Ws0301002s0401003");
            x.load();
            for (int s = 0; s <= 1; s++) {
                streetOf(x, s, 3 + s, 1, 0, 0, 2 + s, 0, 0, 1, 0, 0);
            }
        });
    }

    private static void streetOf(PlacardWalkers x, int s, int... want) {
        for (int what = 0; what < want.length; what++) {
            Checks.due("streetOf(" + s + ", " + what + ")", x.streetOf(s, what), want[what]);
        }
    }

    private static void loadedNumbers() {
        Checks.run("5: A to Z for 0 to 25", () -> {
            PlacardWalkers x = Towns.of("WwAwZwBwY");
            int[] letters = {0, 25, 1, 24};
            for (int k = 0; k < 4; k++) {
                Checks.due("walkerOf(" + k + ", 0)", x.walkerOf(k, 0), letters[k]);
            }
        });
        Checks.run("5: the least and the greatest street, with the shift 0", () -> {
            PlacardWalkers x = Towns.of("Ws0201001s2020206");
            streetOf(x, 0, 2, 1, 0, 0, 1);
            streetOf(x, 1, 20, 20, 20, 0, 6);
        });
        Checks.run("5: shifts 00 to 39 of the streets 0 to 3", () -> {
            PlacardWalkers x = Towns.of("Ws0201001s0201001s0201001s0201001b039b100b209b330");
            Checks.due("streetOf(0, 3)", x.streetOf(0, 3), 39);
            Checks.due("streetOf(1, 3)", x.streetOf(1, 3), 0);
            Checks.due("streetOf(2, 3)", x.streetOf(2, 3), 9);
            Checks.due("streetOf(3, 3)", x.streetOf(3, 3), 30);
        });
        Checks.run("5: r and m set the settings", () -> {
            PlacardWalkers x = Towns.of("Wr3m1");
            Checks.due("setting 0", x.about(11), 3);
            Checks.due("setting 1", x.about(12), 1);
            PlacardWalkers y = Towns.of("Wr3m1r0m0");
            Checks.due("setting 0", y.about(11), 0);
            Checks.due("setting 1", y.about(12), 0);
        });
        Checks.run("5: ticks 01 to 99", () -> {
            Checks.due("time of t01", Towns.of("Wt01").about(2), 1);
            Checks.due("time of t99t99", Towns.of("Wt99t99").about(2), 198);
            Checks.due("time of t10t09", Towns.of("Wt10t09").about(2), 19);
        });
        Checks.run("5: x exchanges the walkers 0 and 9", () -> {
            Checks.same("the file", Towns.file(Towns.of("WwAwBwCwDwEwFwGwHwIwJx09")), "9123456780");
            Checks.same("the file", Towns.file(Towns.of("WwAwBwCwDwEwFwGwHwIwJx90")), "9123456780");
        });
    }

    private static void refused(String text) {
        PlacardWalkers x = Towns.of("WwAwBs0201001t04");
        x.save(1);
        x.ticks(1);
        String before = Towns.look(x);
        Towns.write(x, text);
        Checks.state("load() of " + text, x::load);
        Checks.same("the state", Towns.look(x), before);
        Checks.due("the length", x.clearText(), text.length());
        Checks.due("undo()", x.undo(), 0);
        Checks.due("restore(1)", x.restore(1), 4);
    }

    private static void loadRefused() {
        Checks.run("5: an empty text is not a walk", () -> refused(""));
        Checks.run("5: a text that ends too soon is not a walk", () -> {
            refused("Ww");
            refused("WwAwBt9");
            refused("W" + "r0".repeat(59) + "r");
        });
        Checks.run("5: a text with an error at its end is not a walk", () -> {
            refused("w");
            refused("WwAW");
            refused("WwAt00");
            refused("W" + "r0".repeat(59) + "W");
        });
    }
}
