/** The boundary cases that the promises 6 to 11 name, each sentence with a test of its own. */
final class BoundaryQuestionTests {
    private static final int NONE = PlacardWalkers.NONE;
    private static final int LOW = Integer.MIN_VALUE;
    private static final int HIGH = Integer.MAX_VALUE;
    private static final String TEN = "WwAwBwCwDwEwFwGwHwIwJ";
    private static final String REVERSED = TEN + "x09x18x27x36x45";

    private BoundaryQuestionTests() {
    }

    static void runAll() {
        aboutRange();
        aboutWhere();
        aboutOrder();
        walkerOf();
        walkerOfNone();
        streetOf();
        streetOfLight();
        streetOfRead();
        cell();
        file();
        read();
    }

    private static void about(PlacardWalkers x, int from, int... want) {
        for (int i = 0; i < want.length; i++) {
            Checks.due("about(" + (from + i) + ")", x.about(from + i), want[i]);
        }
    }

    private static void aboutRange() {
        Checks.run("6: what is 0 to 12", () -> {
            for (PlacardWalkers x : new PlacardWalkers[] {new PlacardWalkers(), Twins.full()}) {
                for (int what : new int[] {-1, -2, 13, 14, LOW, HIGH}) {
                    Checks.argument("about(" + what + ")", () -> x.about(what));
                }
                x.about(0);
                x.about(12);
            }
        });
        Checks.run("6: up to 10 walkers and 4 streets", () -> {
            about(Twins.full(), 0, 10, 4);
            about(Towns.of("WwA"), 0, 1, 0);
            about(Towns.of("Ws0201001"), 0, 0, 1);
        });
        Checks.run("6: the time is 0 at first and goes on without end", () -> {
            PlacardWalkers x = new PlacardWalkers();
            about(x, 2, 0);
            x.ticks(1);
            about(x, 2, 1);
            for (int i = 0; i < 400; i++) {
                x.ticks(99);
            }
            about(x, 2, 39601);
        });
        Checks.run("6: the settings are 0 at first", () -> {
            about(new PlacardWalkers(), 11, 0, 0);
            about(Towns.of("Wr3m1"), 11, 3, 1);
        });
    }

    private static void aboutWhere() {
        Checks.run("6: all wait at the start", () -> {
            about(Towns.of(TEN), 3, 10, 0, 0, 0);
            about(Towns.of(TEN + "t99"), 3, 10, 0, 0, 0);
            about(Towns.of(TEN + "s2001001"), 3, 10, 0, 0, 0);
        });
        Checks.run("6: all are in cells", () -> about(Towns.of(TEN + "s2001001t10"), 3, 0, 10, 0, 0));
        Checks.run("6: all are in crowds", () -> {
            about(Towns.of("WwAwBwCwDwEwFs0201196t08"), 3, 0, 0, 6, 0);
            about(Towns.of(TEN + "s0210206s0201206t20"), 3, 0, 0, 10, 0);
        });
        Checks.run("6: all have come", () -> {
            about(Towns.of(TEN + "s0201001t12"), 3, 0, 0, 1, 9);
            about(Towns.of(TEN + "s0201001t13"), 3, 0, 0, 0, 10);
        });
        Checks.run("6: some are everywhere", () -> {
            about(Towns.of("WwAwBwCwDwEs0201002t04"), 3, 1, 2, 1, 1);
        });
    }

    private static void aboutOrder() {
        Checks.run("6: the order of nobody and of one", () -> {
            about(new PlacardWalkers(), 7, 0, 0, 0, 0);
            about(Towns.of("WwQ"), 7, 0, 1, 1, 0);
        });
        Checks.run("6: ten in order", () -> about(Towns.of(TEN), 7, 0, 10, 10, 0));
        Checks.run("6: ten the wrong way round", () -> {
            about(Towns.of(REVERSED), 7, 45, 1, 0, 5);
            about(Towns.of(REVERSED + "s0201001t13"), 6, 10, 45, 1, 0, 5);
        });
        Checks.run("6: ten in one ring need nine exchanges", () -> {
            PlacardWalkers x = Towns.of(TEN + "x01x12x23x34x45x56x67x78x89");
            Checks.due("about(10)", x.about(10), 9);
        });
        Checks.run("6: the rising ones need not be side by side", () -> {
            PlacardWalkers x = Towns.of("WwAwBwCwDwEwFwGx15x24");
            Checks.same("the file", Towns.file(x), "0543216");
            about(x, 8, 3);
            x.exchange(1, 3);
            x.exchange(1, 5);
            Checks.same("the file", Towns.file(x), "0145236");
            about(x, 7, 4, 5);
        });
        Checks.run("6: the same letter, also of another walker", () -> {
            PlacardWalkers x = Towns.of("W" + "wA".repeat(10) + "x09x12");
            about(x, 9, 10);
            x.letter(9, 1);
            about(x, 9, 8);
            x.letter(0, 1);
            about(x, 9, 10);
            x.letter(0, 0);
            x.letter(4, 25);
            about(x, 9, 8);
            x.exchange(4, 5);
            about(x, 9, 6);
        });
        Checks.run("6: letters 0 and 25 are right like the others", () -> {
            about(Towns.of("WwAwZ"), 9, 2);
            about(Towns.of("WwAwZx01"), 9, 0);
            about(Towns.of("WwZwZx01"), 9, 2);
        });
    }

    private static void walkerOf(PlacardWalkers x, int k, int... want) {
        for (int what = 0; what < want.length; what++) {
            Checks.due("walkerOf(" + k + ", " + what + ")", x.walkerOf(k, what), want[what]);
        }
    }

    private static void walkerOf() {
        Checks.run("7: there is no such walker", () -> {
            PlacardWalkers x = Towns.of("WwAwB");
            PlacardWalkers ten = Towns.of(TEN);
            for (int what = 0; what <= 5; what++) {
                int w = what;
                for (int k : new int[] {-1, 2, 9, LOW, HIGH}) {
                    Checks.index("walkerOf(" + k + ", " + w + ")", () -> x.walkerOf(k, w));
                }
                Checks.index("walkerOf(10, " + w + ")", () -> ten.walkerOf(10, w));
                Checks.index("walkerOf(0, " + w + ") of nobody", () -> new PlacardWalkers().walkerOf(0, w));
            }
            walkerOf(ten, 9, 9, 0, NONE, NONE, 9, NONE);
        });
        Checks.run("7: what is 0 to 5", () -> {
            PlacardWalkers x = Towns.of(TEN);
            for (int what : new int[] {-1, 6, LOW, HIGH}) {
                Checks.argument("walkerOf(0, " + what + ")", () -> x.walkerOf(0, what));
                Checks.argument("walkerOf(9, " + what + ")", () -> x.walkerOf(9, what));
            }
        });
        Checks.run("7: no such walker comes before what", () -> {
            PlacardWalkers x = Towns.of("WwA");
            Checks.index("walkerOf(1, 6)", () -> x.walkerOf(1, 6));
            Checks.index("walkerOf(-1, -1)", () -> x.walkerOf(-1, -1));
        });
        Checks.run("7: a walker who is gone by undo", () -> {
            PlacardWalkers x = Towns.of("WwA");
            x.walker(3);
            x.undo();
            Checks.index("walkerOf(1, 0)", () -> x.walkerOf(1, 0));
        });
        Checks.run("7: the least and the greatest letter", () -> {
            PlacardWalkers x = Towns.of("WwZwA");
            walkerOf(x, 0, 25);
            walkerOf(x, 1, 0);
        });
    }

    private static void walkerOfNone() {
        Checks.run("7: at the start: no street, no cell, no time", () -> {
            walkerOf(Towns.of("WwAwBs0201001"), 1, 1, 0, NONE, NONE, 1, NONE);
        });
        Checks.run("7: in the first and in the last cell", () -> {
            walkerOf(Towns.of("WwAs2001001t01"), 0, 0, 1, 0, 0, 0, NONE);
            walkerOf(Towns.of("WwAs2001001t20"), 0, 0, 1, 0, 19, 0, NONE);
        });
        Checks.run("7: in a crowd: a street, but no cell", () -> {
            walkerOf(Towns.of("WwAs2001001t21"), 0, 0, 2, 0, NONE, 0, NONE);
            walkerOf(Towns.of("WwAs0201001s0201001t06"), 0, 0, 2, 1, NONE, 0, NONE);
        });
        Checks.run("7: come: no street, no cell, a time", () -> {
            walkerOf(Towns.of("WwAs2001001t22"), 0, 0, 3, NONE, NONE, 0, 22);
            walkerOf(Towns.of("WwAs2001001t99"), 0, 0, 3, NONE, NONE, 0, 22);
        });
        Checks.run("7: not come any more: no time", () -> {
            PlacardWalkers x = Towns.of("WwAwBs0201001t04");
            x.back();
            walkerOf(x, 0, 0, 0, NONE, NONE, 0, NONE);
            x.undo();
            walkerOf(x, 0, 0, 3, NONE, NONE, 0, 4);
        });
        Checks.run("7: the street 3", () -> {
            walkerOf(Towns.of("WwAs0201001s0201001s0201001s0201001t10"), 0, 0, 1, 3, 0, 0, NONE);
            walkerOf(Towns.of("WwAs0201001s0201001s0201001s0201001t12"), 0, 0, 2, 3, NONE, 0, NONE);
            walkerOf(Towns.of("WwAs0201001s0201001s0201001s0201001t13"), 0, 0, 3, NONE, NONE, 0, 13);
        });
        Checks.run("7: the places 0 and 9", () -> {
            PlacardWalkers x = Towns.of(REVERSED);
            Checks.due("walkerOf(9, 4)", x.walkerOf(9, 4), 0);
            Checks.due("walkerOf(0, 4)", x.walkerOf(0, 4), 9);
        });
    }

    private static void streetOf() {
        Checks.run("8: there is no such street", () -> {
            PlacardWalkers x = Towns.of("Ws0201001");
            PlacardWalkers four = Twins.full();
            for (int what = 0; what <= 9; what++) {
                int w = what;
                for (int s : new int[] {-1, 1, 3, LOW, HIGH}) {
                    Checks.index("streetOf(" + s + ", " + w + ")", () -> x.streetOf(s, w));
                }
                Checks.index("streetOf(4, " + w + ")", () -> four.streetOf(4, w));
                Checks.index("streetOf(0, " + w + ") without one", () -> new PlacardWalkers().streetOf(0, w));
                four.streetOf(3, w);
            }
        });
        Checks.run("8: what is 0 to 9", () -> {
            PlacardWalkers four = Twins.full();
            for (int what : new int[] {-1, 10, LOW, HIGH}) {
                Checks.argument("streetOf(0, " + what + ")", () -> four.streetOf(0, what));
                Checks.argument("streetOf(3, " + what + ")", () -> four.streetOf(3, what));
            }
        });
        Checks.run("8: no such street comes before what", () -> {
            PlacardWalkers x = Towns.of("Ws0201001");
            Checks.index("streetOf(1, 10)", () -> x.streetOf(1, 10));
            Checks.index("streetOf(-1, -1)", () -> x.streetOf(-1, -1));
        });
        Checks.run("8: a street that is gone by undo", () -> {
            PlacardWalkers x = new PlacardWalkers();
            x.street(2, 1, 0, 1);
            x.undo();
            Checks.index("streetOf(0, 0)", () -> x.streetOf(0, 0));
        });
        Checks.run("8: none and as many as can be in cells and in a crowd", () -> {
            PlacardWalkers x = Towns.of(TEN + "s0201206t20");
            Checks.due("in cells", x.streetOf(0, 5), 2);
            Checks.due("in the crowd", x.streetOf(0, 6), 6);
            PlacardWalkers y = Towns.of(TEN + "s2001001t10");
            Checks.due("in cells", y.streetOf(0, 5), 10);
            Checks.due("in the crowd", y.streetOf(0, 6), 0);
            PlacardWalkers z = Towns.of(TEN + "s0201001t13");
            Checks.due("in cells", z.streetOf(0, 5), 0);
            Checks.due("in the crowd", z.streetOf(0, 6), 0);
        });
    }

    /** The light at a time: with the shift, and the numbers for green and red. */
    private static void light(int time, int shift, int green, int red, int want) {
        PlacardWalkers x = new PlacardWalkers();
        x.street(2, green, red, 1);
        x.shift(0, shift);
        if (time > 0) {
            x.ticks(time);
        }
        Checks.due("at " + time + " with the shift " + shift + ", " + green + " and " + red, x.streetOf(0, 7), want);
    }

    private static void streetOfLight() {
        Checks.run("8: the light at the time 0", () -> {
            light(0, 0, 1, 20, 1);
            light(0, 1, 1, 20, 0);
            light(0, 20, 1, 20, 0);
            light(0, 21, 1, 20, 1);
            light(0, 39, 20, 20, 0);
        });
        Checks.run("8: the last green time and the first red one", () -> {
            light(19, 0, 20, 20, 1);
            light(20, 0, 20, 20, 0);
            light(4, 0, 5, 1, 1);
            light(5, 0, 5, 1, 0);
        });
        Checks.run("8: the last red time and green over again", () -> {
            light(39, 0, 20, 20, 0);
            light(40, 0, 20, 20, 1);
            light(59, 0, 20, 20, 1);
            light(60, 0, 20, 20, 0);
            light(80, 0, 20, 20, 1);
            light(20, 0, 1, 20, 0);
            light(21, 0, 1, 20, 1);
            light(22, 0, 1, 20, 0);
        });
        Checks.run("8: the time and the shift, together", () -> {
            light(1, 39, 20, 20, 1);
            light(20, 39, 20, 20, 1);
            light(21, 39, 20, 20, 0);
            light(2, 39, 1, 20, 0);
            light(3, 39, 1, 20, 1);
            light(4, 39, 1, 20, 0);
        });
        Checks.run("8: no red: always green", () -> {
            for (int time = 0; time <= 45; time++) {
                light(time, time % 40, 1, 0, 1);
                light(time, time % 40, 20, 0, 1);
            }
        });
        Checks.run("8: 1 or 0 after one tick more", () -> {
            PlacardWalkers x = Towns.of("Ws0201011");
            for (int time = 0; time <= 4; time++) {
                Checks.due("green at " + time, x.streetOf(0, 7), 1 - time % 2);
                x.ticks(1);
            }
        });
    }

    private static void streetOfRead() {
        Checks.run("8: nobody was read, one, and all", () -> {
            Checks.due("read", Towns.of(TEN + "s0201001t03").streetOf(0, 8), 0);
            Checks.due("read", Towns.of(TEN + "s0201001t04").streetOf(0, 8), 1);
            Checks.due("read", Towns.of(TEN + "s0201001t99").streetOf(0, 8), 10);
        });
        Checks.run("8: no pairs of nobody and of one", () -> {
            Checks.due("pairs", Towns.of(REVERSED + "s0201001t03").streetOf(0, 9), 0);
            Checks.due("pairs", Towns.of(REVERSED + "s0201001t04").streetOf(0, 9), 0);
            Checks.due("pairs", Towns.of(REVERSED + "s0201001t05").streetOf(0, 9), 1);
        });
        Checks.run("8: all pairs of ten", () -> {
            PlacardWalkers x = Towns.of(REVERSED + "s0201001s0201001s0201001s0201001t99");
            for (int s = 0; s < 4; s++) {
                Checks.due("read at " + s, x.streetOf(s, 8), 10);
                Checks.due("pairs at " + s, x.streetOf(s, 9), 45);
            }
            Checks.due("pairs in order", Towns.of(TEN + "s0201001t99").streetOf(0, 9), 0);
        });
        Checks.run("8: one who was read twice is no pair", () -> {
            PlacardWalkers x = Towns.of("WwAwBs0201001s2001001t04x01t01");
            Checks.same("read", Towns.read(x, 0), "00");
            Checks.due("how many", x.streetOf(0, 8), 2);
            Checks.due("pairs", x.streetOf(0, 9), 0);
        });
    }

    private static void cell() {
        Checks.run("9: there is no such street", () -> {
            PlacardWalkers four = Twins.full();
            PlacardWalkers one = Towns.of("Ws0201001");
            for (int s : new int[] {-1, 4, LOW, HIGH}) {
                Checks.index("cell(" + s + ", 0)", () -> four.cell(s, 0));
            }
            Checks.index("cell(1, 0)", () -> one.cell(1, 0));
        });
        Checks.run("9: there is no such cell", () -> {
            PlacardWalkers x = Towns.of("Ws0201001s2001001s0501001");
            int[] cells = {2, 20, 5};
            for (int s = 0; s < 3; s++) {
                int street = s;
                for (int c : new int[] {-1, cells[s], LOW, HIGH}) {
                    Checks.index("cell(" + s + ", " + c + ")", () -> x.cell(street, c));
                }
                Checks.due("the last cell", x.cell(s, cells[s] - 1), NONE);
                Checks.due("the first cell", x.cell(s, 0), NONE);
            }
        });
        Checks.run("9: a walker in the first and in the last cell", () -> {
            PlacardWalkers x = Towns.of("WwAs2001001t01");
            Checks.due("cell(0, 0)", x.cell(0, 0), 0);
            x.ticks(19);
            Checks.due("cell(0, 19)", x.cell(0, 19), 0);
            Checks.due("cell(0, 18)", x.cell(0, 18), NONE);
        });
        Checks.run("9: nobody is there", () -> {
            PlacardWalkers x = Towns.of("WwAs0201001s0201001t01");
            Checks.due("cell(0, 1)", x.cell(0, 1), NONE);
            Checks.due("cell(1, 0)", x.cell(1, 0), NONE);
            x.ticks(2);
            Checks.due("whose walker is in the crowd", x.cell(0, 1), NONE);
            x.ticks(4);
            Checks.due("whose walker has come", x.cell(1, 1), NONE);
        });
    }

    private static void file() {
        Checks.run("10: there is no such place", () -> {
            PlacardWalkers three = Towns.of("WwAwBwC");
            PlacardWalkers ten = Towns.of(TEN);
            for (int place : new int[] {-1, 3, 9, LOW, HIGH}) {
                Checks.index("file(" + place + ") of three", () -> three.file(place));
            }
            Checks.index("file(10) of ten", () -> ten.file(10));
            Checks.due("file(2) of three", three.file(2), 2);
            Checks.due("file(9) of ten", ten.file(9), 9);
        });
        Checks.run("10: the file of nobody", () -> {
            Checks.index("file(0)", () -> Towns.of("Ws0201001").file(0));
            PlacardWalkers x = new PlacardWalkers();
            x.walker(1);
            x.undo();
            Checks.index("file(0) after undo", () -> x.file(0));
        });
        Checks.run("10: those who have come, in the order in which they came", () -> {
            Checks.same("the file", Towns.file(Towns.of("WwAwBwCs0201003x02t06")), "210");
            Checks.same("the file", Towns.file(Towns.of("WwAwBwCs0201056r1x01t18")), "201");
        });
        Checks.run("10: a crowd in the order of joining, ahead of the last cell", () -> {
            PlacardWalkers x = Towns.of("WwAwBwCwDwEx02x34s0201202t12");
            Checks.same("the file", Towns.file(x), "21043");
            Checks.due("in the crowd", x.walkerOf(1, 1), 2);
            Checks.due("in the last cell", x.walkerOf(0, 3), 1);
        });
        Checks.run("10: the last street first", () -> {
            PlacardWalkers x = Towns.of("WwAwBwCwDwEx04s0201001s0301201t08");
            Checks.same("street 1", Towns.cells(x, 1), "321");
            Checks.same("the file", Towns.file(x), "41230");
        });
        Checks.run("10: without streets all wait, in their order", () -> {
            PlacardWalkers x = Towns.of("WwAwBwCx02");
            x.walker(7);
            Checks.same("the file", Towns.file(x), "2103");
        });
    }

    private static void read() {
        Checks.run("11: there is no such street", () -> {
            PlacardWalkers four = Twins.full();
            for (int s : new int[] {-1, 4, LOW, HIGH}) {
                Checks.index("read(" + s + ", 0)", () -> four.read(s, 0));
            }
            Checks.index("read(1, 0)", () -> Towns.of("Ws0201001").read(1, 0));
        });
        Checks.run("11: i is negative", () -> {
            PlacardWalkers x = Towns.of("WwAs0201001s0201001t07");
            for (int i : new int[] {-1, -2, -10, LOW}) {
                Checks.argument("read(0, " + i + ")", () -> x.read(0, i));
                Checks.argument("read(1, " + i + ")", () -> x.read(1, i));
            }
        });
        Checks.run("11: no such street comes before a negative i", () -> {
            PlacardWalkers x = Towns.of("Ws0201001");
            Checks.index("read(1, -1)", () -> x.read(1, -1));
            Checks.index("read(-1, -1)", () -> x.read(-1, -1));
        });
        Checks.run("11: not so many were read", () -> {
            PlacardWalkers x = Towns.of(TEN + "s0201001s0201001t99");
            Checks.due("read(0, 9)", x.read(0, 9), 9);
            Checks.due("read(0, 10)", x.read(0, 10), NONE);
            Checks.due("read(0, 11)", x.read(0, 11), NONE);
            Checks.due("read(0, HIGH)", x.read(0, HIGH), NONE);
            Checks.due("read(1, 10)", x.read(1, 10), NONE);
            PlacardWalkers y = Towns.of("WwAwBs0201001s0201001t04");
            Checks.due("read(0, 0)", y.read(0, 0), 0);
            Checks.due("read(0, 1)", y.read(0, 1), NONE);
            Checks.due("read(1, 0)", y.read(1, 0), NONE);
            Checks.due("read(0, 0) of nobody", Towns.of("Ws0201001").read(0, 0), NONE);
        });
        Checks.run("11: the walkers who left a corner, in their order", () -> {
            PlacardWalkers x = Towns.of("WwAwBwCwDx03s0201001s0201056r1t30");
            Checks.same("read at 0", Towns.read(x, 0), "3120");
            Checks.same("read at 1", Towns.read(x, 1), "0213");
        });
    }
}
