/** The boundary cases that the promises 21 to 25 name, each sentence with a test of its own. */
final class BoundaryForesightTests {
    private static final int NONE = PlacardWalkers.NONE;
    private static final int LOW = Integer.MIN_VALUE;
    private static final int HIGH = Integer.MAX_VALUE;
    private static final String TEN = "WwAwBwCwDwEwFwGwHwIwJ";
    // The first walker must catch the light of street 1 at one time, the second one 19 ticks later.
    private static final String TWO_CATCHES = "Ws2020206s0201186";

    private BoundaryForesightTests() {
    }

    static void runAll() {
        allIn();
        allInNone();
        later();
        laterAnswers();
        bestRule();
        bestShift();
        bestShiftOfSeveral();
        bestExchange();
        bestExchangeOfSeveral();
    }

    private static void allIn() {
        Checks.run("21: 0 without walkers", () -> {
            Checks.due("allIn()", new PlacardWalkers().allIn(), 0);
            Checks.due("allIn()", Towns.of("Ws0201001t50").allIn(), 0);
        });
        Checks.run("21: 0 if all have come", () -> {
            Checks.due("allIn()", Towns.of("WwAs0201001t04").allIn(), 0);
            Checks.due("allIn()", Towns.of(TEN + "s0201001t13").allIn(), 0);
            Checks.due("allIn()", Towns.of(TEN + "s0201001t99").allIn(), 0);
        });
        Checks.run("21: 1 if the last one comes in the next tick", () -> {
            Checks.due("allIn()", Towns.of("WwAs0201001t03").allIn(), 1);
            Checks.due("allIn()", Towns.of(TEN + "s0201001t12").allIn(), 1);
        });
        Checks.run("21: not 0 if some have come, but not all", () -> {
            Checks.due("allIn()", Towns.of(TEN + "s0201001t04").allIn(), 9);
            PlacardWalkers x = Towns.of("WwAs0201001t10");
            x.walker(1);
            Checks.due("allIn()", x.allIn(), 4);
        });
        Checks.run("21: the walkers go on from where they are", () -> {
            PlacardWalkers x = Towns.of("WwAwBs0201201b117");
            int all = x.allIn();
            for (int gone = 1; gone <= all; gone++) {
                x.ticks(1);
                Checks.due("allIn() behind " + gone, x.allIn(), all - gone);
            }
            Checks.due("about(6)", x.about(6), 2);
        });
        Checks.run("21: the slowest lights", () -> {
            PlacardWalkers x = Towns.of(TEN + "s2001206s2001201s2001201s2001201b000b101b203b304");
            Checks.due("allIn()", x.allIn(), 353);
            x.ticks(99);
            x.ticks(99);
            x.ticks(99);
            x.ticks(55);
            Checks.due("about(6) before", x.about(6), 9);
            Checks.due("ticks(1)", x.ticks(1), 1);
        });
    }

    private static void allInNone() {
        Checks.run("21: NONE without streets", () -> {
            Checks.due("allIn()", Towns.of("WwA").allIn(), NONE);
            Checks.due("allIn()", Towns.of(TEN + "t99").allIn(), NONE);
        });
        Checks.run("21: not NONE any more with a street", () -> {
            PlacardWalkers x = Towns.of("WwAt99");
            x.street(2, 1, 0, 1);
            Checks.due("allIn()", x.allIn(), 4);
            x.undo();
            Checks.due("allIn()", x.allIn(), NONE);
        });
    }

    private static void later() {
        Checks.run("22: n is 1 to 500", () -> {
            PlacardWalkers x = Towns.of("WwAs0201001");
            for (int n : new int[] {0, -1, 501, LOW, HIGH}) {
                for (int what = 3; what <= 10; what++) {
                    int w = what;
                    Checks.argument("later(" + n + ", " + what + ")", () -> x.later(n, w));
                }
            }
            Checks.due("later(1, 4)", x.later(1, 4), 1);
            Checks.due("later(500, 6)", x.later(500, 6), 1);
        });
        Checks.run("22: what is 3 to 10", () -> {
            PlacardWalkers x = Towns.of("WwAs0201001");
            for (int what : new int[] {-1, 0, 1, 2, 11, 12, 13, LOW, HIGH}) {
                Checks.argument("later(1, " + what + ")", () -> x.later(1, what));
                Checks.argument("later(500, " + what + ")", () -> x.later(500, what));
                Checks.argument("later(0, " + what + ")", () -> x.later(0, what));
            }
            Checks.due("later(1, 3)", x.later(1, 3), 0);
            Checks.due("later(1, 10)", x.later(1, 10), 0);
        });
    }

    private static void laterAnswers() {
        Checks.run("22: behind n ticks, not one more or fewer", () -> {
            PlacardWalkers x = Towns.of("WwAs0201001");
            Checks.due("later(3, 6)", x.later(3, 6), 0);
            Checks.due("later(4, 6)", x.later(4, 6), 1);
            Checks.due("later(3, 5)", x.later(3, 5), 1);
            Checks.due("later(4, 5)", x.later(4, 5), 0);
            PlacardWalkers slow = Towns.of(TEN + "s2001206s2001201s2001201s2001201b000b101b203b304");
            Checks.due("later(352, 6)", slow.later(352, 6), 9);
            Checks.due("later(353, 6)", slow.later(353, 6), 10);
        });
        Checks.run("22: nobody, and nobody who walks", () -> {
            int[] ofNobody = {0, 0, 0, 0, 0, 0, 0, 0};
            int[] waiting = {2, 0, 0, 0, 1, 1, 0, 1};
            int[] haveCome = {0, 0, 0, 2, 1, 1, 0, 1};
            for (int what = 3; what <= 10; what++) {
                Checks.due("later(500, " + what + ")", new PlacardWalkers().later(500, what), ofNobody[what - 3]);
                Checks.due("later(500, " + what + ")", Towns.of("WwAwBx01").later(500, what), waiting[what - 3]);
                Checks.due("later(500, " + what + ")", Towns.of("WwAwBx01s0201001t05").later(500, what),
                    haveCome[what - 3]);
            }
        });
    }

    private static void bestRule() {
        Checks.run("23: of several the lowest", () -> {
            Checks.due("of nobody", new PlacardWalkers().bestRule(), 0);
            Checks.due("of one", Towns.of("WwAs0201001r3").bestRule(), 0);
            Checks.due("without streets", Towns.of("WwAwBx01r3").bestRule(), 0);
            Checks.due("when all have come", Towns.of("WwAwBx01s0201001r2t09").bestRule(), 0);
            Checks.due("the rules 1 and 2 alike", Towns.of("WwAwBx01s0302011s0302165r3").bestRule(), 1);
        });
        Checks.run("23: each value can be the best", () -> {
            Checks.due("0", Towns.of("WwAwBwCs0201056r1").bestRule(), 0);
            Checks.due("1", Towns.of("WwAwBwCx02s0303126").bestRule(), 1);
            Checks.due("2", Towns.of("WwAwBwCx01s0201056").bestRule(), 2);
            Checks.due("3", Towns.of(TEN.substring(0, 19) + "s0402014s0501081m1x24x27x68x27x06x37").bestRule(), 3);
        });
        Checks.run("23: with 36 and with 45 pairs the wrong way round", () -> {
            Checks.due("bestRule()", Towns.of(TEN + "x09x18x27x36x45s0201192").bestRule(), 1);
            Checks.due("bestRule()", Towns.of(TEN + "x09x18x27x36x45s0201191r2").bestRule(), 0);
        });
        Checks.run("23: behind so many ticks that all have come", () -> {
            String slow = TEN + "x01x38s2001206s2001206s2001206s2001206r";
            int best = NONE;
            int least = HIGH;
            for (int rule = 0; rule <= 3; rule++) {
                PlacardWalkers x = Towns.of(slow + rule);
                for (int i = 0; i < 10; i++) {
                    x.ticks(99);
                }
                Checks.due("about(6)", x.about(6), 10);
                if (x.about(7) < least) {
                    least = x.about(7);
                    best = rule;
                }
            }
            Checks.due("bestRule()", Towns.of(slow + "0").bestRule(), best);
        });
    }

    private static void bestShift() {
        Checks.run("24: there is no such street", () -> {
            PlacardWalkers four = Twins.full();
            PlacardWalkers one = Towns.of("WwAs0201001");
            for (int s : new int[] {-1, 4, LOW, HIGH}) {
                Checks.index("bestShift(" + s + ")", () -> four.bestShift(s));
            }
            Checks.index("bestShift(1)", () -> one.bestShift(1));
            Checks.due("bestShift(0)", one.bestShift(0), 0);
            four.bestShift(3);
        });
        Checks.run("24: the shifts 0 and 39 are tried", () -> {
            PlacardWalkers greatest = Towns.of(TWO_CATCHES + "b113t19wAt19wB");
            Checks.due("bestShift(0)", greatest.bestShift(0), 39);
            greatest.shift(0, 39);
            Checks.due("allIn() with 39", greatest.allIn(), 25);
            Checks.due("bestShift(0)", greatest.bestShift(0), 39);
            PlacardWalkers least = Towns.of(TWO_CATCHES + "b114b039t18wAt19wB");
            Checks.due("bestShift(0)", least.bestShift(0), 0);
            least.shift(0, 0);
            Checks.due("allIn() with 0", least.allIn(), 25);
        });
        Checks.run("24: the shifts up to 39 of a light of 21 ticks", () -> {
            PlacardWalkers x = Towns.of("WwAs0201201t01");
            Checks.due("bestShift(0)", x.bestShift(0), 17);
            PlacardWalkers y = Towns.of("WwAs0201201t21");
            Checks.due("bestShift(0) of one who has left at 21", y.bestShift(0), 0);
        });
    }

    private static void bestShiftOfSeveral() {
        Checks.run("24: of several the lowest", () -> {
            Checks.due("without walkers", Towns.of("Ws0201201b020").bestShift(0), 0);
            Checks.due("when all have come", Towns.of("WwAs0201001b039t09").bestShift(0), 0);
            Checks.due("without red", Towns.of("WwAwBs0220001b039").bestShift(0), 0);
            Checks.due("every second one", Towns.of("WwAs0201011b038").bestShift(0), 0);
            Checks.due("every second one", Towns.of("WwAs0301011").bestShift(0), 1);
        });
        Checks.run("24: the shift of now is not preferred", () -> {
            for (String shift : new String[] {"00", "02", "08", "39"}) {
                Checks.due("with " + shift, Towns.of("WwAs0201051b0" + shift).bestShift(0), 2);
            }
        });
        Checks.run("24: only the light of that street", () -> {
            PlacardWalkers x = Towns.of("WwAs0201051s0201051");
            Checks.due("bestShift(0)", x.bestShift(0), 0);
            Checks.due("bestShift(1)", x.bestShift(1), 3);
            x.shift(0, 2);
            Checks.due("bestShift(1)", x.bestShift(1), 5);
        });
    }

    private static void best(PlacardWalkers x, int lower, int greater, int gain) {
        Checks.due("bestExchange(0)", x.bestExchange(0), lower);
        Checks.due("bestExchange(1)", x.bestExchange(1), greater);
        Checks.due("bestExchange(2)", x.bestExchange(2), gain);
    }

    private static void bestExchange() {
        Checks.run("25: what is 0 to 2", () -> {
            for (PlacardWalkers x : new PlacardWalkers[] {new PlacardWalkers(), Towns.of("WwAwBx01")}) {
                for (int what : new int[] {-1, 3, LOW, HIGH}) {
                    Checks.argument("bestExchange(" + what + ")", () -> x.bestExchange(what));
                }
            }
        });
        Checks.run("25: there are none", () -> {
            best(new PlacardWalkers(), NONE, NONE, 0);
            best(Towns.of("WwA"), NONE, NONE, 0);
            best(Towns.of("WwAwB"), NONE, NONE, 0);
            best(Towns.of(TEN), NONE, NONE, 0);
        });
        Checks.run("25: only those who have not come", () -> {
            best(Towns.of("WwAwBx01s0201001t05"), NONE, NONE, 0);
            best(Towns.of("WwAwBx01s0201001t04"), NONE, NONE, 0);
            best(Towns.of("WwAwBx01s0201001t03"), 0, 1, 1);
            best(Towns.of("WwAwBwCx02s0201001t04"), 0, 1, 1);
        });
    }

    private static void bestExchangeOfSeveral() {
        Checks.run("25: the first walker and the last one", () -> {
            best(Towns.of(TEN + "x09x18x27x36x45"), 0, 9, 17);
            best(Towns.of("WwAwBx01"), 0, 1, 1);
            best(Towns.of(TEN + "x89"), 8, 9, 1);
        });
        Checks.run("25: of several those with the lowest lower number", () -> {
            best(Towns.of("WwAwBwCwDx01x23"), 0, 1, 1);
            best(Towns.of("WwAwBwCwDwEx34x12"), 1, 2, 1);
        });
        Checks.run("25: of these the lowest greater one", () -> {
            PlacardWalkers x = Towns.of("WwAwBwCx01x12");
            Checks.same("the file", Towns.file(x), "201");
            best(x, 0, 2, 1);
            PlacardWalkers y = Towns.of("WwAwBwCx12x01");
            Checks.same("the file", Towns.file(y), "120");
            best(y, 0, 1, 1);
        });
    }
}
