/** The boundary cases of promise 19, and of a tick as the terms tell it, each sentence with a test of its own. */
final class BoundaryTickTests {
    private static final int NONE = PlacardWalkers.NONE;
    private static final int LOW = Integer.MIN_VALUE;
    private static final int HIGH = Integer.MAX_VALUE;
    private static final String SIX = "WwAwBwCwDwEwF";
    private static final String TEN = SIX + "wGwHwIwJ";

    private BoundaryTickTests() {
    }

    static void runAll() {
        range();
        howManyCome();
        lights();
        leaving();
        rules();
        draws();
        drawsNot();
        nextStreet();
        joining();
        movingOn();
        changingPlaces();
        changingPlacesNot();
        comingFromTheStart();
    }

    private static void comes(String walk, int time) {
        PlacardWalkers x = Towns.of(walk + "t99");
        Checks.due("when the walker of " + walk + " comes", x.walkerOf(0, 5), time);
    }

    private static void range() {
        Checks.run("19: n is 1 to 99", () -> {
            PlacardWalkers x = Towns.of("WwAs0201001");
            for (int n : new int[] {0, -1, 100, 101, LOW, HIGH}) {
                Checks.argument("ticks(" + n + ")", () -> x.ticks(n));
            }
            Checks.due("time", x.about(2), 0);
            x.ticks(1);
            Checks.due("time", x.about(2), 1);
            x.ticks(99);
            Checks.due("time", x.about(2), 100);
        });
        Checks.run("19: nobody and no street", () -> {
            PlacardWalkers x = new PlacardWalkers();
            Checks.due("ticks(99)", x.ticks(99), 0);
            x.walker(0);
            Checks.due("ticks(99) of one", x.ticks(99), 0);
            Checks.due("walkerOf(0, 1)", x.walkerOf(0, 1), 0);
            x.street(2, 1, 0, 1);
            Checks.due("ticks(4)", x.ticks(4), 1);
            Checks.due("time", x.about(2), 202);
            Checks.due("ticks(1) of a street without walkers", Towns.of("Ws0201001").ticks(1), 0);
        });
    }

    private static void howManyCome() {
        Checks.run("19: none, one, all come", () -> {
            Checks.due("ticks(3)", Towns.of(TEN + "s0201001").ticks(3), 0);
            Checks.due("ticks(4)", Towns.of(TEN + "s0201001").ticks(4), 1);
            Checks.due("ticks(12)", Towns.of(TEN + "s0201001").ticks(12), 9);
            Checks.due("ticks(13)", Towns.of(TEN + "s0201001").ticks(13), 10);
            Checks.due("ticks(99)", Towns.of(TEN + "s0201001").ticks(99), 10);
        });
        Checks.run("19: who came before is not counted", () -> {
            PlacardWalkers x = Towns.of(TEN + "s0201001t07");
            Checks.due("ticks(2)", x.ticks(2), 2);
            Checks.due("ticks(99)", x.ticks(99), 4);
            Checks.due("ticks(99)", x.ticks(99), 0);
        });
        Checks.run("19: the shortest and the longest street", () -> {
            comes("WwAs0201001", 4);
            comes("WwAs2001001", 22);
            comes("WwAs2001001s2001001s2001001s2001001", 85);
        });
    }

    private static void lights() {
        Checks.run("19: the light is asked at the new time", () -> {
            comes("WwAs0201011", 4);
            comes("WwAs0201011b001", 5);
        });
        Checks.run("19: the last green tick and the first red one", () -> {
            comes("WwAs0205201", 4);
            comes("WwAs0204201", 24);
            comes("WwAs0204011", 5);
        });
        Checks.run("19: the shift brings the last green tick and the first red one", () -> {
            comes("WwAs0220201b015", 4);
            comes("WwAs0220201b016", 24);
            comes("WwAs0220201b035", 5);
            comes("WwAs0220201b036", 4);
            comes("WwAs0220201b039", 4);
        });
        Checks.run("19: the shift goes over both numbers", () -> {
            comes("WwAs0201201b016", 5);
            comes("WwAs0201201b017", 4);
            comes("WwAs0201201b018", 24);
            comes("WwAs0201201b037", 5);
            comes("WwAs0201201b038", 4);
            comes("WwAs0201201b039", 24);
        });
        Checks.run("19: no red", () -> {
            comes("WwAs0201001b039", 4);
            comes("WwAs0220001b016", 4);
        });
        Checks.run("19: over and over", () -> {
            PlacardWalkers x = Towns.of(SIX + "s0201026t21");
            int[] times = {6, 9, 12, 15, 18, 21};
            for (int k = 0; k < 6; k++) {
                Checks.due("walkerOf(" + k + ", 5)", x.walkerOf(k, 5), times[k]);
            }
        });
    }

    private static void leaving() {
        Checks.run("19: one walker a tick leaves a crowd", () -> {
            PlacardWalkers x = Towns.of(SIX + "s0220206b017t22");
            Checks.due("the crowd at the last red tick", x.streetOf(0, 6), 6);
            for (int left = 1; left <= 6; left++) {
                Checks.due("ticks(1)", x.ticks(1), 1);
                Checks.due("the crowd", x.streetOf(0, 6), 6 - left);
            }
            Checks.due("ticks(1) of no crowd", x.ticks(1), 0);
        });
        Checks.run("19: nobody leaves an empty crowd", () -> {
            Checks.due("read", Towns.of("WwAs2001001t20").streetOf(0, 8), 0);
            Checks.due("read", Towns.of("WwAs2001001t21").streetOf(0, 8), 0);
        });
        Checks.run("19: from the last street the walker has come, otherwise not", () -> {
            Checks.due("about(6)", Towns.of("WwAs0201001t04").about(6), 1);
            Checks.due("about(6)", Towns.of("WwAs0201001s0201001t04").about(6), 0);
            Checks.due("about(6)", Towns.of("WwAs0201001s0201001t07").about(6), 1);
        });
    }

    private static void rules() {
        String crowd = SIX + "x03x12x45s0201196";
        Checks.run("19: rule 0 takes the one who joined first", () -> {
            Checks.same("read", Towns.read(Towns.of(crowd + "r0t99t21"), 0), "321054");
        });
        Checks.run("19: rule 1 takes the one who joined last", () -> {
            Checks.same("read", Towns.read(Towns.of(crowd + "r1t99t21"), 0), "450123");
        });
        Checks.run("19: rule 2 takes the one with the lowest number", () -> {
            Checks.same("read", Towns.read(Towns.of(crowd + "r2t99t21"), 0), "012345");
        });
        Checks.run("19: those who stay keep their order", () -> {
            PlacardWalkers x = Towns.of(crowd + "r2t20");
            Checks.same("behind the fourth", Towns.file(x), "032154");
            x.set(0, 1);
            x.ticks(20);
            Checks.same("behind the last", Towns.file(x), "043215");
            x.set(0, 0);
            x.ticks(20);
            Checks.same("behind the first", Towns.file(x), "043215");
        });
        Checks.run("19: each rule of a crowd of one", () -> {
            for (int rule = 0; rule <= 3; rule++) {
                Checks.same("read", Towns.read(Towns.of("WwAwBs0201001r" + rule + "t05"), 0), "01");
            }
        });
    }

    private static void draws() {
        Checks.run("19: x is at first 1", () -> {
            PlacardWalkers x = Towns.of(SIX + "s0201196r3t20");
            Checks.due("the first draw", x.read(0, 0), Draws.place(1, 6));
        });
        Checks.run("19: each draw among those who are left", () -> {
            PlacardWalkers x = Towns.of(SIX + "s0201196r3t99t21");
            StringBuilder crowd = new StringBuilder("012345");
            StringBuilder want = new StringBuilder();
            for (int number = 1; number <= 6; number++) {
                int place = Draws.place(number, crowd.length());
                want.append(crowd.charAt(place));
                crowd.deleteCharAt(place);
            }
            Checks.same("read", Towns.read(x, 0), want.toString());
        });
        Checks.run("19: in the order in which they joined", () -> {
            PlacardWalkers x = Towns.of(SIX + "x05x14x23s0201196r3t20");
            Checks.due("the first draw", x.read(0, 0), 5 - Draws.place(1, 6));
        });
        Checks.run("19: also if it is the only one", () -> {
            PlacardWalkers x = Towns.of("WwAs0220206r3t20");
            Checks.due("read alone", x.streetOf(0, 8), 1);
            for (int k = 1; k <= 5; k++) {
                x.walker(k);
            }
            x.ticks(20);
            Checks.due("the second draw", x.read(0, 1), 1 + Draws.place(2, 5));
        });
        Checks.run("19: x goes through all long numbers", () -> {
            PlacardWalkers x = Towns.of(SIX + "s0201196r3");
            int number = 0;
            for (int round = 0; round < 6; round++) {
                x.back();
                x.ticks(99);
                x.ticks(21);
                StringBuilder crowd = new StringBuilder("012345");
                for (int i = 0; i < 6; i++) {
                    number++;
                    int place = Draws.place(number, crowd.length());
                    Checks.due("draw " + number, x.read(0, i), crowd.charAt(place) - '0');
                    crowd.deleteCharAt(place);
                }
            }
        });
    }

    private static void drawsNot() {
        Checks.run("19: nobody is drawn by the rules 0 to 2", () -> {
            for (int rule = 0; rule <= 2; rule++) {
                PlacardWalkers x = Towns.of(SIX + "s0201196r" + rule + "t40");
                x.back();
                x.set(0, 3);
                x.ticks(20);
                Checks.due("the first draw", x.read(0, 0), Draws.place(1, 6));
            }
        });
        Checks.run("19: nobody is drawn at a red light", () -> {
            PlacardWalkers x = Towns.of(SIX + "s0201206r3t21");
            Checks.due("the first draw", x.read(0, 0), Draws.place(1, 6));
        });
        Checks.run("19: nobody is drawn of an empty crowd", () -> {
            PlacardWalkers x = Towns.of(SIX + "s0201196s0201006r3t20");
            Checks.due("the first draw", x.read(0, 0), Draws.place(1, 6));
        });
        Checks.run("19: nobody is drawn if the next cell 0 is not free", () -> {
            PlacardWalkers x = Towns.of(SIX + "s0201006s0201201r3t20");
            Checks.due("read alone", x.streetOf(0, 8), 3);
            Checks.due("the crowd", x.streetOf(0, 6), 3);
            x.ticks(1);
            Checks.due("the fifth draw, behind one of the last street", x.read(0, 3), 3 + Draws.place(5, 3));
        });
    }

    private static void nextStreet() {
        Checks.run("19: the cell 0 of the next street is not free: nobody leaves", () -> {
            PlacardWalkers x = Towns.of(SIX + "s0201006s0201201t20");
            Checks.same("street 1", Towns.cells(x, 1) + x.streetOf(1, 6), "211");
            Checks.same("the crowd of street 0 stays", Towns.read(x, 0) + x.streetOf(0, 6), "0123");
        });
        Checks.run("19: the cell 0 that has become free in the same tick", () -> {
            PlacardWalkers x = Towns.of(SIX + "s0201006s0201201t21");
            Checks.same("street 1", Towns.cells(x, 1) + x.streetOf(1, 6), "321");
            Checks.same("come", Towns.read(x, 1) + x.about(6), "01");
        });
        Checks.run("19: who comes to the next street goes on in the next tick", () -> {
            PlacardWalkers x = Towns.of("WwAwBs0201001s0301001t04");
            Checks.same("at 4", Towns.cells(x, 1), "0..");
            x.ticks(1);
            Checks.same("at 5", Towns.cells(x, 1), "10.");
        });
        Checks.run("19: only the cell 0 of the next street counts", () -> {
            PlacardWalkers x = Towns.of("WwAwBwCs0201026s0401201t09");
            Checks.same("street 1", Towns.cells(x, 1), "1..0");
        });
    }

    private static void joining() {
        Checks.run("19: the width 1 holds one", () -> {
            PlacardWalkers x = Towns.of(SIX + "s0201201t20");
            Checks.same("the street", Towns.cells(x, 0) + x.streetOf(0, 6) + x.about(3), "2113");
        });
        Checks.run("19: the width 6 holds six", () -> {
            PlacardWalkers x = Towns.of(TEN + "s0201206t20");
            Checks.same("the street", Towns.cells(x, 0) + x.streetOf(0, 6) + x.about(3), "7662");
        });
        Checks.run("19: a full crowd that one leaves takes one in the same tick", () -> {
            PlacardWalkers x = Towns.of(SIX + "s0201201t21");
            Checks.same("the street", Towns.cells(x, 0) + x.streetOf(0, 6) + x.about(3), "3212");
            Checks.same("the file", Towns.file(x), "012345");
        });
        Checks.run("19: only the walker in the last cell joins", () -> {
            PlacardWalkers x = Towns.of("WwAs0301001t02");
            Checks.due("in the last cell but one", x.walkerOf(0, 3), 1);
            x.ticks(1);
            Checks.due("in the last cell", x.walkerOf(0, 3), 2);
            x.ticks(1);
            Checks.due("in the crowd", x.walkerOf(0, 1), 2);
        });
        Checks.run("19: the width counts for each corner alone", () -> {
            PlacardWalkers x = Towns.of(TEN + "s0220203s0201201s0201206t20");
            Checks.due("street 1's crowd", x.streetOf(1, 6), 1);
            Checks.due("street 0's crowd", x.streetOf(0, 6), 3);
        });
    }

    private static void movingOn() {
        Checks.run("19: each goes on by one cell a tick", () -> {
            PlacardWalkers x = Towns.of("WwAwBwCs2001001t01");
            Checks.due("cell(0, 0)", x.cell(0, 0), 0);
            for (int tick = 2; tick <= 20; tick++) {
                x.ticks(1);
                Checks.due("at " + tick, x.walkerOf(0, 3), tick - 1);
                Checks.due("behind", x.walkerOf(1, 3), tick - 2);
            }
        });
        Checks.run("19: who finds the next cell taken stays", () -> {
            PlacardWalkers x = Towns.of(TEN + "s0501201t20");
            Checks.same("the cells", Towns.cells(x, 0), "54321");
            Checks.due("at the start", x.about(3), 4);
        });
        Checks.run("19: all move up in the tick in which the first one goes on", () -> {
            PlacardWalkers x = Towns.of(TEN + "s0501201t21");
            Checks.same("the cells", Towns.cells(x, 0), "65432");
            Checks.due("at the start", x.about(3), 3);
        });
        Checks.run("19: a gap closes from behind while the first one waits", () -> {
            PlacardWalkers x = Towns.of("WwAwBs0401201t04wCt01");
            Checks.same("the cells", Towns.cells(x, 0), "2..1");
            x.ticks(1);
            Checks.same("the cells", Towns.cells(x, 0), ".2.1");
            x.ticks(1);
            Checks.same("the cells", Towns.cells(x, 0), "..21");
            x.ticks(1);
            Checks.same("the cells", Towns.cells(x, 0), "..21");
        });
    }

    private static void changingPlaces() {
        Checks.run("19: the pair in the cells 0 and 1", () -> {
            PlacardWalkers x = Towns.of("WwAwBwCx02s0201201t09m1t01");
            Checks.same("the cells", Towns.cells(x, 0) + Towns.file(x), "10" + "201");
        });
        Checks.run("19: the pair in the last cells", () -> {
            PlacardWalkers x = Towns.of("WwAwBwCx02s2001201t40");
            Checks.same("the cells", Towns.cells(x, 0).substring(18) + x.streetOf(0, 6), "011");
            x.set(1, 1);
            x.ticks(1);
            Checks.same("the cells", Towns.cells(x, 0).substring(18), "10");
        });
        Checks.run("19: of several pairs only the one farthest ahead", () -> {
            PlacardWalkers x = Towns.of("WwAwBwCwDx03x12s0601201t04m1t01");
            Checks.same("the cells", Towns.cells(x, 0), ".0132.");
            x.ticks(1);
            Checks.same("the cells", Towns.cells(x, 0), "..0312");
        });
        Checks.run("19: one pair on each street", () -> {
            PlacardWalkers x = Towns.of(SIX + "x05x14x23s0401001s0601001t07m1t01");
            Checks.same("the cells", Towns.cells(x, 1) + Towns.cells(x, 0), "354..." + "..10");
        });
        Checks.run("19: behind the moves of the same tick", () -> {
            PlacardWalkers x = Towns.of("WwAs0601201t01wBt01x01m1");
            Checks.same("the cells", Towns.cells(x, 0), "01....");
            x.ticks(1);
            Checks.same("the cells", Towns.cells(x, 0), ".10...");
        });
    }

    private static void changingPlacesNot() {
        Checks.run("19: not with the setting 0", () -> {
            PlacardWalkers x = Towns.of("WwAwBx01s0601201t05");
            Checks.same("the cells", Towns.cells(x, 0), "...01.");
        });
        Checks.run("19: not if the one ahead has the lower number", () -> {
            PlacardWalkers x = Towns.of("WwAwBs0601201m1t05");
            Checks.same("the cells", Towns.cells(x, 0), "...10.");
        });
        Checks.run("19: not with an empty cell between", () -> {
            PlacardWalkers x = Towns.of("WwAs0601201t02wBx01m1t01");
            Checks.same("the cells", Towns.cells(x, 0), "0.1...");
            x.ticks(3);
            Checks.same("the cells", Towns.cells(x, 0), "...0.1");
        });
        Checks.run("19: not a crowd and the last cell", () -> {
            PlacardWalkers x = Towns.of("WwAwBx01s0201201m1t09");
            Checks.same("the cells", Towns.cells(x, 0), ".0");
            Checks.due("in the crowd", x.walkerOf(1, 1), 2);
        });
        Checks.run("19: not within a crowd", () -> {
            PlacardWalkers x = Towns.of("WwAwBx01s0201206m1t09");
            Checks.same("the file", Towns.file(x), "10");
        });
        Checks.run("19: not the cells of two streets", () -> {
            PlacardWalkers x = Towns.of(SIX + "x25x23x34s0201001s0201201t12m1t02");
            Checks.same("the cells", Towns.cells(x, 1) + Towns.cells(x, 0), "51" + "43");
            Checks.same("the file", Towns.file(x), "015234");
        });
        Checks.run("19: not who comes into the cell 0 in the same tick", () -> {
            PlacardWalkers x = Towns.of("WwAwBx01s0601201m1t02");
            Checks.same("the cells", Towns.cells(x, 0), "01....");
            x.ticks(1);
            Checks.same("the cells", Towns.cells(x, 0), ".10...");
        });
        Checks.run("19: not two who wait at the start", () -> {
            PlacardWalkers x = Towns.of("WwAwBwCwDx23s2001201m1t01");
            Checks.same("the file", Towns.file(x), "0132");
        });
    }

    private static void comingFromTheStart() {
        Checks.run("19: one a tick, the first who waits", () -> {
            PlacardWalkers x = Towns.of("WwAwBwCx02s2001001t01");
            Checks.same("the start", x.cell(0, 0) + " " + x.about(3), "2 2");
            x.ticks(1);
            Checks.same("the start", x.cell(0, 0) + " " + x.about(3), "1 1");
            x.ticks(1);
            Checks.same("the start", x.cell(0, 0) + " " + x.about(3), "0 0");
            x.ticks(1);
            Checks.due("nobody waits", x.cell(0, 0), NONE);
        });
        Checks.run("19: not if the cell 0 of the street 0 is not free", () -> {
            PlacardWalkers x = Towns.of(SIX + "s0201201t04");
            Checks.due("about(3)", x.about(3), 3);
            x.ticks(16);
            Checks.due("about(3)", x.about(3), 3);
            x.ticks(1);
            Checks.due("about(3) when it has become free", x.about(3), 2);
        });
        Checks.run("19: only to the street 0, whatever the others hold", () -> {
            PlacardWalkers x = Towns.of("WwAwBwCwDs0201001s0201201t08");
            Checks.same("street 1", Towns.cells(x, 1), "21");
            x.walker(4);
            x.ticks(1);
            Checks.due("cell(0, 0)", x.cell(0, 0), 4);
        });
    }
}
