/**
 * Walkers with placards who spell a slogan in file and lose their order at corners.
 * What each method of the face promises stands in DOC.md; README.md tells how to use it.
 */
public final class PlacardWalkers {
    public static final int NONE = -1;

    private static final int MOST_WALKERS = 10;
    private static final int HIGHEST_LETTER = 25;
    private static final int HIGHEST_SIGN = 255;
    private static final int MOST_TICKS = 99;
    private static final int FAR_AHEAD = 999;
    private static final int MOST_LATER = 500;
    private static final int RULES = 4;
    private static final int MOST_COMMANDS = 3;
    private static final int MOST_TURNS = 60;
    private static final long FACTOR = 6364136223846793005L;
    private static final long ADDEND = 1442695040888963407L;

    private final WalkText text = new WalkText();
    private final Town town = new Town();
    // All that would be is tried out on this one, so that no call has to make a town.
    private final Town trial = new Town();
    private final Measures measures = new Measures();
    private final History history = new History();
    private final Slot firstSlot = new Slot();
    private final Slot secondSlot = new Slot();

    public PlacardWalkers() {
    }

    // ---- text

    public int append(int c) throws IllegalArgumentException, IllegalStateException {
        if (c < 0 || c > HIGHEST_SIGN) {
            throw new IllegalArgumentException("a character is 0 to 255");
        }
        if (text.isFull()) {
            throw new IllegalStateException("the text is full");
        }
        return text.addSign(c);
    }

    public int clearText() {
        return text.emptied();
    }

    public int errorPosition() {
        return text.firstError();
    }

    public int load() throws IllegalStateException {
        if (text.firstError() != NONE) {
            throw new IllegalStateException("the text is not a walk");
        }
        town.makeNew();
        history.forgetAll();
        firstSlot.filled = false;
        secondSlot.filled = false;
        int leftOut = 0;
        text.beginReading();
        for (int i = 1; i < text.length; i++) {
            if (text.endsCommand(i) && !text.carriesOut(town)) {
                leftOut++;
            }
        }
        return leftOut;
    }

    // ---- what there is

    public int about(int what) throws IllegalArgumentException {
        if (what < 0 || what > 12) {
            throw new IllegalArgumentException("what is 0 to 12");
        }
        return measures.numberOf(town, what);
    }

    public int walkerOf(int k, int what) throws IndexOutOfBoundsException, IllegalArgumentException {
        if (!town.hasWalker(k)) {
            throw new IndexOutOfBoundsException("no such walker");
        }
        if (what < 0 || what > 5) {
            throw new IllegalArgumentException("what is 0 to 5");
        }
        return town.numberOfWalker(k, what);
    }

    public int streetOf(int s, int what) throws IndexOutOfBoundsException, IllegalArgumentException {
        if (!town.streets.exists(s)) {
            throw new IndexOutOfBoundsException("no such street");
        }
        if (what < 0 || what > 9) {
            throw new IllegalArgumentException("what is 0 to 9");
        }
        return town.numberOfStreet(s, what);
    }

    public int cell(int s, int c) throws IndexOutOfBoundsException {
        if (!town.streets.exists(s) || c < 0 || c >= town.streets.cellsOf(s)) {
            throw new IndexOutOfBoundsException("no such street or cell");
        }
        return town.walkerInCell(s, c);
    }

    public int file(int place) throws IndexOutOfBoundsException {
        if (!town.hasPlace(place)) {
            throw new IndexOutOfBoundsException("no such place in the file");
        }
        return town.walkerAt(place);
    }

    public int read(int s, int i) throws IndexOutOfBoundsException, IllegalArgumentException {
        if (!town.streets.exists(s)) {
            throw new IndexOutOfBoundsException("no such street");
        }
        if (i < 0) {
            throw new IllegalArgumentException("i is 0 or more");
        }
        return town.streets.readAt(s, i);
    }

    // ---- actions

    public int walker(int letter) throws IllegalArgumentException, IllegalStateException {
        if (!Town.isLetter(letter)) {
            throw new IllegalArgumentException("a letter is 0 to 25");
        }
        if (town.isFull()) {
            throw new IllegalStateException("there are 10 walkers");
        }
        history.remember(town);
        return town.addWalker(letter);
    }

    public int street(int cells, int green, int red, int width)
            throws IllegalArgumentException, IllegalStateException {
        if (!Streets.isStreet(cells, green, red, width)) {
            throw new IllegalArgumentException("an argument is out of its range");
        }
        if (!town.mayGrow()) {
            throw new IllegalStateException("there are 4 streets, or anybody has come");
        }
        history.remember(town);
        return town.streets.addStreet(cells, green, red, width);
    }

    public int shift(int s, int shift) throws IndexOutOfBoundsException, IllegalArgumentException {
        if (!town.streets.exists(s)) {
            throw new IndexOutOfBoundsException("no such street");
        }
        if (!Streets.isShift(shift)) {
            throw new IllegalArgumentException("a shift is 0 to 39");
        }
        history.remember(town);
        return town.streets.changeShift(s, shift);
    }

    public int letter(int k, int letter) throws IndexOutOfBoundsException, IllegalArgumentException {
        if (!town.hasWalker(k)) {
            throw new IndexOutOfBoundsException("no such walker");
        }
        if (!Town.isLetter(letter)) {
            throw new IllegalArgumentException("a letter is 0 to 25");
        }
        history.remember(town);
        return town.changeLetter(k, letter);
    }

    public int exchange(int k, int other)
            throws IndexOutOfBoundsException, IllegalArgumentException, IllegalStateException {
        if (!town.hasWalker(k) || !town.hasWalker(other)) {
            throw new IndexOutOfBoundsException("no such walker");
        }
        if (k == other) {
            throw new IllegalArgumentException("both are the same");
        }
        if (town.hasCome(k) || town.hasCome(other)) {
            throw new IllegalStateException("one of them has come");
        }
        history.remember(town);
        return town.swapWalkers(k, other);
    }

    public int back() {
        history.remember(town);
        return town.sendBack();
    }

    public int set(int what, int v) throws IllegalArgumentException {
        if (!Town.isSetting(what, v)) {
            throw new IllegalArgumentException("no such setting or value");
        }
        history.remember(town);
        return town.changeSetting(what, v);
    }

    public int ticks(int n) throws IllegalArgumentException {
        if (!Town.isTicks(n)) {
            throw new IllegalArgumentException("n is 1 to 99");
        }
        history.remember(town);
        int before = town.come();
        town.triesTicks(n);
        return town.come() - before;
    }

    public int undo() throws IllegalStateException {
        if (history.count == 0) {
            throw new IllegalStateException("no state is remembered");
        }
        history.takeBack(town);
        return history.count;
    }

    // ---- what would be, if nothing else is done

    public int allIn() {
        trial.become(town);
        return trial.ticksUntilAllIn();
    }

    public int later(int n, int what) throws IllegalArgumentException {
        if (n < 1 || n > MOST_LATER || what < 3 || what > 10) {
            throw new IllegalArgumentException("n is 1 to 500, what is 3 to 10");
        }
        trial.become(town);
        trial.runWhileAnyoneWalks(n);
        return measures.numberOf(trial, what);
    }

    public int bestRule() {
        int best = 0;
        int fewest = MOST_WALKERS * MOST_WALKERS;
        for (int rule = 0; rule < RULES; rule++) {
            trial.become(town);
            trial.rule = rule;
            trial.runWhileAnyoneWalks(FAR_AHEAD);
            int wrong = trial.wrongPairs();
            if (wrong < fewest) {
                fewest = wrong;
                best = rule;
            }
        }
        return best;
    }

    public int bestShift(int s) throws IndexOutOfBoundsException {
        if (!town.streets.exists(s)) {
            throw new IndexOutOfBoundsException("no such street");
        }
        int best = 0;
        int soonest = FAR_AHEAD + 1;
        for (int shift = 0; shift <= Streets.GREATEST_SHIFT; shift++) {
            trial.become(town);
            trial.streets.changeShift(s, shift);
            int wait = trial.ticksUntilAllIn();
            if (wait != NONE && wait < soonest) {
                soonest = wait;
                best = shift;
            }
        }
        return best;
    }

    public int bestExchange(int what) throws IllegalArgumentException {
        if (what < 0 || what > 2) {
            throw new IllegalArgumentException("what is 0 to 2");
        }
        int lower = NONE;
        int greater = NONE;
        int most = 0;
        trial.become(town);
        for (int k = 0; k < trial.walkers; k++) {
            for (int other = k + 1; other < trial.walkers; other++) {
                int gain = gainOnTrial(k, other);
                if (gain > most) {
                    most = gain;
                    lower = k;
                    greater = other;
                }
            }
        }
        return what == 0 ? lower : what == 1 ? greater : most;
    }

    /** What the exchange would return, 0 if it may not be; the trial is afterwards as before. */
    private int gainOnTrial(int k, int other) {
        if (trial.hasCome(k) || trial.hasCome(other)) {
            return 0;
        }
        int gain = trial.swapWalkers(k, other);
        trial.swapWalkers(k, other);
        return gain;
    }

    // ---- scripts, simulations

    public int runScript(int n, long script) throws IllegalArgumentException {
        if (n < 1 || n > MOST_COMMANDS || script < 0 || Script.groupFromEnd(script, n) != 0) {
            throw new IllegalArgumentException("n is 1 to 3, a script has at most 6 * n digits");
        }
        trial.become(town);
        for (int i = 0; i < n; i++) {
            int group = (int) (Script.groupFromEnd(script, n - 1 - i) % Script.GROUP);
            if (!Script.succeeds(trial, group)) {
                return i;
            }
        }
        return NONE;
    }

    public int simulate(long seed, int m) throws IllegalArgumentException {
        if (m < 1 || m > MOST_TURNS) {
            throw new IllegalArgumentException("m is 1 to 60");
        }
        trial.become(town);
        long s = seed;
        for (int i = 0; i < m; i++) {
            s = s * FACTOR + ADDEND;
            takeTurn((int) (s >>> 33));
        }
        return 10000 * trial.come() + 100 * trial.wrongPairs() + measures.numberOf(trial, 9);
    }

    private void takeTurn(int r) {
        int q = r / 8;
        switch (r % 8) {
            case 0:
                trial.triesWalker(q % 26);
                break;
            case 1:
                trial.triesStreet(2 + q % 19, 1 + q / 32 % 20, q / 1024 % 21, 1 + q / 32768 % 6);
                break;
            case 2:
                if (q / 256 % 2 == 0) {
                    trial.triesExchange(q % 10, q / 16 % 10);
                } else {
                    trial.triesShift(q % 4, q / 8 % 40);
                }
                break;
            case 3:
                if (q / 4 % 2 == 0) {
                    trial.triesSetting(0, q % 4);
                } else {
                    trial.triesSetting(1, q / 8 % 2);
                }
                break;
            default:
                trial.triesTicks(1 + q % 20);
                break;
        }
    }

    // ---- save slots

    public int save(int slot) throws IndexOutOfBoundsException {
        if (slot != 0 && slot != 1) {
            throw new IndexOutOfBoundsException("no such save slot");
        }
        Slot chosen = slot == 0 ? firstSlot : secondSlot;
        chosen.saved.become(town);
        chosen.filled = true;
        return town.time;
    }

    public int restore(int slot) throws IndexOutOfBoundsException, IllegalStateException {
        if (slot != 0 && slot != 1) {
            throw new IndexOutOfBoundsException("no such save slot");
        }
        Slot chosen = slot == 0 ? firstSlot : secondSlot;
        if (!chosen.filled) {
            throw new IllegalStateException("nothing has been saved in it");
        }
        town.become(chosen.saved);
        history.forgetAll();
        return town.time;
    }

    // ---- rows of numbers: no index is used here or inside the other classes that was not looked at

    private static int at(int[] row, int i) {
        return i >= 0 && i < row.length ? row[i] : NONE;
    }

    private static void put(int[] row, int i, int value) {
        if (i >= 0 && i < row.length) {
            row[i] = value;
        }
    }

    private static void copyRow(int[] from, int[] to) {
        System.arraycopy(from, 0, to, 0, Math.min(from.length, to.length));
    }

    /** The pairs in a stretch of a row of whom the lower number stands behind the greater one. */
    private static int pairsFalling(int[] row, int from, int count) {
        int pairs = 0;
        for (int i = from; i < from + count; i++) {
            for (int j = i + 1; j < from + count; j++) {
                if (at(row, i) > at(row, j)) {
                    pairs++;
                }
            }
        }
        return pairs;
    }

    /** The text buffer, and the reading of its commands sign by sign. */
    private static final class WalkText {
        private static final int LONGEST = 120;
        // Of each number of a command: how many signs it has, the least and the greatest value.
        private static final int[] OF_WALKER = {1, 0, 25};
        private static final int[] OF_STREET = {2, 2, 20, 2, 1, 20, 2, 0, 20, 1, 1, 6};
        private static final int[] OF_SHIFT = {1, 0, 3, 2, 0, 39};
        private static final int[] OF_RULE = {1, 0, 3};
        private static final int[] OF_MIXING = {1, 0, 1};
        private static final int[] OF_EXCHANGE = {1, 0, 9, 1, 0, 9};
        private static final int[] OF_TICKS = {2, 1, 99};
        private static final int[] OF_NO_COMMAND = {};

        int length;
        private final int[] signs = new int[LONGEST];
        private final int[] numbers = new int[4];
        // Where the reading stands: the command's letter, which of its numbers comes next,
        // the first digit of a number of two (NONE before it), and whether the command is whole.
        private int command;
        private int next;
        private int tens;
        private boolean whole;

        boolean isFull() {
            return length >= LONGEST;
        }

        int addSign(int c) {
            put(signs, length, c);
            length++;
            return length;
        }

        int emptied() {
            int before = length;
            length = 0;
            return before;
        }

        int firstError() {
            if (length == 0 || at(signs, 0) != 'W') {
                return 0;
            }
            beginReading();
            for (int i = 1; i < length; i++) {
                if (!takes(at(signs, i))) {
                    return i;
                }
            }
            return whole ? NONE : length;
        }

        void beginReading() {
            whole = true;
        }

        /** Reads the sign at a place; true if a command is whole with it. */
        boolean endsCommand(int i) {
            return takes(at(signs, i)) && whole;
        }

        private boolean takes(int sign) {
            return whole ? takesLetter(sign) : takesNumberSign(sign);
        }

        private boolean takesLetter(int sign) {
            if (rangesOf(sign).length == 0) {
                return false;
            }
            command = sign;
            next = 0;
            tens = NONE;
            whole = false;
            return true;
        }

        private static int[] rangesOf(int letter) {
            switch (letter) {
                case 'w': return OF_WALKER;
                case 's': return OF_STREET;
                case 'b': return OF_SHIFT;
                case 'r': return OF_RULE;
                case 'm': return OF_MIXING;
                case 'x': return OF_EXCHANGE;
                case 't': return OF_TICKS;
                default: return OF_NO_COMMAND;
            }
        }

        private boolean takesNumberSign(int sign) {
            int[] ranges = rangesOf(command);
            int least = at(ranges, 3 * next + 1);
            int greatest = at(ranges, 3 * next + 2);
            int digit = sign - (command == 'w' ? 'A' : '0');
            if (digit < 0 || digit > (command == 'w' ? HIGHEST_LETTER : 9)) {
                return false;
            }
            if (at(ranges, 3 * next) == 2 && tens == NONE) {
                tens = digit;
                return 10 * digit + 9 >= least && 10 * digit <= greatest;
            }
            int value = tens == NONE ? digit : 10 * tens + digit;
            put(numbers, next, value);
            next++;
            tens = NONE;
            whole = 3 * next >= ranges.length;
            return value >= least && value <= greatest;
        }

        /** Does the command that was read last; false if it would throw an exception. */
        boolean carriesOut(Town town) {
            int first = at(numbers, 0);
            int second = at(numbers, 1);
            switch (command) {
                case 'w': return town.triesWalker(first);
                case 's': return town.triesStreet(first, second, at(numbers, 2), at(numbers, 3));
                case 'b': return town.triesShift(first, second);
                case 'r': return town.triesSetting(0, first);
                case 'm': return town.triesSetting(1, first);
                case 'x': return town.triesExchange(first, second);
                default: return town.triesTicks(first);
            }
        }
    }

    /** The streets with their lights, and who was read at their corners. */
    private static final class Streets {
        static final int GREATEST_SHIFT = 39;
        private static final int MOST = 4;
        // An exchange moves nobody over a corner, so without back() no corner is left more often.
        private static final int MOST_READ = MOST_WALKERS;

        int count;
        private final int[] cells = new int[MOST];
        private final int[] greens = new int[MOST];
        private final int[] reds = new int[MOST];
        private final int[] shifts = new int[MOST];
        private final int[] widths = new int[MOST];
        private final int[] readCounts = new int[MOST];
        private final int[] readers = new int[MOST * MOST_READ];

        static boolean isStreet(int cells, int green, int red, int width) {
            return cells >= 2 && cells <= 20 && green >= 1 && green <= 20
                && red >= 0 && red <= 20 && width >= 1 && width <= 6;
        }

        static boolean isShift(int shift) {
            return shift >= 0 && shift <= GREATEST_SHIFT;
        }

        boolean exists(int s) {
            return s >= 0 && s < count;
        }

        boolean isFull() {
            return count >= MOST;
        }

        void removeAll() {
            count = 0;
        }

        void become(Streets other) {
            count = other.count;
            copyRow(other.cells, cells);
            copyRow(other.greens, greens);
            copyRow(other.reds, reds);
            copyRow(other.shifts, shifts);
            copyRow(other.widths, widths);
            copyRow(other.readCounts, readCounts);
            copyRow(other.readers, readers);
        }

        int addStreet(int cellCount, int green, int red, int width) {
            put(cells, count, cellCount);
            put(greens, count, green);
            put(reds, count, red);
            put(shifts, count, 0);
            put(widths, count, width);
            put(readCounts, count, 0);
            count++;
            return count - 1;
        }

        int cellsOf(int s) {
            return at(cells, s);
        }

        int greenOf(int s) {
            return at(greens, s);
        }

        int redOf(int s) {
            return at(reds, s);
        }

        int shiftOf(int s) {
            return at(shifts, s);
        }

        int widthOf(int s) {
            return at(widths, s);
        }

        int changeShift(int s, int shift) {
            int before = at(shifts, s);
            put(shifts, s, shift);
            return before;
        }

        boolean isGreen(int s, int time) {
            int period = at(greens, s) + at(reds, s);
            return period > 0 && (time + at(shifts, s)) % period < at(greens, s);
        }

        void noteReader(int s, int walker) {
            int reads = at(readCounts, s);
            if (reads < MOST_READ) {
                put(readers, s * MOST_READ + reads, walker);
                put(readCounts, s, reads + 1);
            }
        }

        void forgetReaders() {
            for (int s = 0; s < count; s++) {
                put(readCounts, s, 0);
            }
        }

        int readCountOf(int s) {
            return at(readCounts, s);
        }

        int readAt(int s, int i) {
            return i < at(readCounts, s) ? at(readers, s * MOST_READ + i) : NONE;
        }

        int pairsReadFalling(int s) {
            return pairsFalling(readers, s * MOST_READ, at(readCounts, s));
        }
    }

    /** The state: all that an action can change. */
    private static final class Town {
        // The numbers by which walkerOf() tells where a walker is.
        static final int AT_START = 0;
        static final int IN_CELL = 1;
        static final int IN_CROWD = 2;
        static final int COME = 3;

        final Streets streets = new Streets();
        int walkers;
        int time;
        int rule;
        int mixing;
        private long x = 1;
        // A number for each walker.
        private final int[] letters = new int[MOST_WALKERS];
        private final int[] comeTimes = new int[MOST_WALKERS];
        // A number for each place in the file: who is there, and where that is. A crowd, the
        // cells of a street and the start are stretches of the file, each in its own order,
        // so that no order is kept but this one.
        private final int[] order = new int[MOST_WALKERS];
        private final int[] standings = new int[MOST_WALKERS];
        private final int[] streetsAt = new int[MOST_WALKERS];
        private final int[] cellsAt = new int[MOST_WALKERS];

        static boolean isLetter(int letter) {
            return letter >= 0 && letter <= HIGHEST_LETTER;
        }

        static boolean isSetting(int what, int v) {
            return what == 0 ? v >= 0 && v < RULES : what == 1 && (v == 0 || v == 1);
        }

        static boolean isTicks(int n) {
            return n >= 1 && n <= MOST_TICKS;
        }

        void makeNew() {
            streets.removeAll();
            walkers = 0;
            time = 0;
            rule = 0;
            mixing = 0;
            x = 1;
        }

        void become(Town other) {
            streets.become(other.streets);
            walkers = other.walkers;
            time = other.time;
            rule = other.rule;
            mixing = other.mixing;
            x = other.x;
            copyRow(other.letters, letters);
            copyRow(other.comeTimes, comeTimes);
            copyRow(other.order, order);
            copyRow(other.standings, standings);
            copyRow(other.streetsAt, streetsAt);
            copyRow(other.cellsAt, cellsAt);
        }

        // -- what there is

        boolean hasWalker(int k) {
            return k >= 0 && k < walkers;
        }

        boolean hasPlace(int place) {
            return place >= 0 && place < walkers;
        }

        boolean isFull() {
            return walkers >= MOST_WALKERS;
        }

        boolean mayGrow() {
            return !streets.isFull() && come() == 0;
        }

        int walkerAt(int place) {
            return at(order, place);
        }

        int letterOf(int k) {
            return at(letters, k);
        }

        int placeOf(int k) {
            for (int place = 0; place < walkers; place++) {
                if (at(order, place) == k) {
                    return place;
                }
            }
            return NONE;
        }

        int standingOf(int k) {
            return at(standings, placeOf(k));
        }

        boolean hasCome(int k) {
            return standingOf(k) == COME;
        }

        /** Those who have come stand at the front of the file. */
        int come() {
            return endOf(0, COME, NONE);
        }

        boolean allHaveCome() {
            return walkers == 0 || at(standings, walkers - 1) == COME;
        }

        int countStanding(int standing) {
            int found = 0;
            for (int place = 0; place < walkers; place++) {
                if (at(standings, place) == standing) {
                    found++;
                }
            }
            return found;
        }

        private int countOnStreet(int s, int standing) {
            int found = 0;
            for (int place = 0; place < walkers; place++) {
                if (at(streetsAt, place) == s && at(standings, place) == standing) {
                    found++;
                }
            }
            return found;
        }

        int walkerInCell(int s, int c) {
            for (int place = 0; place < walkers; place++) {
                if (isInCell(place, s, c)) {
                    return at(order, place);
                }
            }
            return NONE;
        }

        private boolean isInCell(int place, int s, int c) {
            return at(standings, place) == IN_CELL && at(streetsAt, place) == s && at(cellsAt, place) == c;
        }

        int wrongPairs() {
            return pairsFalling(order, 0, walkers);
        }

        int numberOfWalker(int k, int what) {
            int place = placeOf(k);
            switch (what) {
                case 0: return at(letters, k);
                case 1: return at(standings, place);
                case 2: return at(streetsAt, place);
                case 3: return at(cellsAt, place);
                case 4: return place;
                default: return at(comeTimes, k);
            }
        }

        int numberOfStreet(int s, int what) {
            switch (what) {
                case 0: return streets.cellsOf(s);
                case 1: return streets.greenOf(s);
                case 2: return streets.redOf(s);
                case 3: return streets.shiftOf(s);
                case 4: return streets.widthOf(s);
                case 5: return countOnStreet(s, IN_CELL);
                case 6: return countOnStreet(s, IN_CROWD);
                case 7: return streets.isGreen(s, time) ? 1 : 0;
                case 8: return streets.readCountOf(s);
                default: return streets.pairsReadFalling(s);
            }
        }

        // -- actions whose arguments were looked at

        int addWalker(int letter) {
            int k = walkers;
            walkers++;
            put(letters, k, letter);
            put(comeTimes, k, NONE);
            put(order, k, k);
            stand(k, AT_START, NONE, NONE);
            return k;
        }

        int changeLetter(int k, int letter) {
            int before = at(letters, k);
            put(letters, k, letter);
            return before;
        }

        /** Returns by how much the pairs the wrong way round become fewer. */
        int swapWalkers(int k, int other) {
            int before = wrongPairs();
            swapPlaces(placeOf(k), placeOf(other));
            return before - wrongPairs();
        }

        /** Returns how many were not at the start. */
        int sendBack() {
            int away = walkers - countStanding(AT_START);
            for (int k = 0; k < walkers; k++) {
                put(order, k, k);
                put(comeTimes, k, NONE);
                stand(k, AT_START, NONE, NONE);
            }
            streets.forgetReaders();
            return away;
        }

        int changeSetting(int what, int v) {
            int before = what == 0 ? rule : mixing;
            if (what == 0) {
                rule = v;
            } else {
                mixing = v;
            }
            return before;
        }

        // -- actions of texts, scripts and simulations: false, and nothing done, if the method would throw

        boolean triesWalker(int letter) {
            if (!isLetter(letter) || isFull()) {
                return false;
            }
            addWalker(letter);
            return true;
        }

        boolean triesStreet(int cells, int green, int red, int width) {
            if (!Streets.isStreet(cells, green, red, width) || !mayGrow()) {
                return false;
            }
            streets.addStreet(cells, green, red, width);
            return true;
        }

        boolean triesShift(int s, int shift) {
            if (!streets.exists(s) || !Streets.isShift(shift)) {
                return false;
            }
            streets.changeShift(s, shift);
            return true;
        }

        boolean triesExchange(int k, int other) {
            if (!hasWalker(k) || !hasWalker(other) || k == other || hasCome(k) || hasCome(other)) {
                return false;
            }
            swapPlaces(placeOf(k), placeOf(other));
            return true;
        }

        boolean triesSetting(int what, int v) {
            if (!isSetting(what, v)) {
                return false;
            }
            changeSetting(what, v);
            return true;
        }

        boolean triesTicks(int n) {
            if (!isTicks(n)) {
                return false;
            }
            for (int i = 0; i < n; i++) {
                tick();
            }
            return true;
        }

        // -- ticks

        /** The ticks until all have come; NONE if that takes too long. */
        int ticksUntilAllIn() {
            for (int gone = 0; gone < FAR_AHEAD; gone++) {
                if (allHaveCome()) {
                    return gone;
                }
                tick();
            }
            return allHaveCome() ? FAR_AHEAD : NONE;
        }

        /** For questions about the file alone: once all have come it stays as it is. */
        void runWhileAnyoneWalks(int most) {
            for (int i = 0; i < most && !allHaveCome(); i++) {
                tick();
            }
        }

        /** Goes through the file from its front, which is the order in which a tick takes the streets. */
        void tick() {
            time++;
            int front = come();
            for (int s = streets.count - 1; s >= 0; s--) {
                int crowdEnd = endOf(front, IN_CROWD, s);
                int end = endOf(crowdEnd, IN_CELL, s);
                if (mayLeave(s, front, crowdEnd)) {
                    leave(s, leavingPlace(front, crowdEnd), front);
                    front++;
                }
                if (crowdEnd < end && joinsCrowd(s, crowdEnd, crowdEnd - front)) {
                    stand(crowdEnd, IN_CROWD, s, NONE);
                    crowdEnd++;
                }
                moveOn(s, crowdEnd, end);
                if (mixing == 1) {
                    mix(crowdEnd, end);
                }
                front = end;
            }
            if (streets.count > 0 && front < walkers && !isInCell(front - 1, 0, 0)) {
                stand(front, IN_CELL, 0, 0);
            }
        }

        /** The end of the stretch of the file that begins at a place and stands so at that street. */
        private int endOf(int begin, int standing, int s) {
            int place = begin;
            while (place < walkers && at(standings, place) == standing && at(streetsAt, place) == s) {
                place++;
            }
            return place;
        }

        /** The last one on the next street, who alone can be in its cell 0, is just ahead of the crowd. */
        private boolean mayLeave(int s, int front, int crowdEnd) {
            return front < crowdEnd && streets.isGreen(s, time) && !isInCell(front - 1, s + 1, 0);
        }

        private void leave(int s, int place, int front) {
            bringForward(place, front);
            int k = at(order, front);
            streets.noteReader(s, k);
            if (s == streets.count - 1) {
                stand(front, COME, NONE, NONE);
                put(comeTimes, k, time);
            } else {
                stand(front, IN_CELL, s + 1, 0);
            }
        }

        private int leavingPlace(int front, int crowdEnd) {
            int size = crowdEnd - front;
            switch (rule) {
                case 0:
                    return front;
                case 1:
                    return crowdEnd - 1;
                case 2:
                    return lowestPlace(front, crowdEnd);
                default:
                    x = x * FACTOR + ADDEND;
                    return size > 0 ? front + (int) (x >>> 33) % size : front;
            }
        }

        private int lowestPlace(int front, int end) {
            int lowest = front;
            for (int place = front + 1; place < end; place++) {
                if (at(order, place) < at(order, lowest)) {
                    lowest = place;
                }
            }
            return lowest;
        }

        /** Those between move back by one place; where the places are stays. */
        private void bringForward(int from, int to) {
            int k = at(order, from);
            for (int place = from; place > to; place--) {
                put(order, place, at(order, place - 1));
            }
            put(order, to, k);
        }

        private boolean joinsCrowd(int s, int place, int crowd) {
            return crowd < streets.widthOf(s) && isInCell(place, s, streets.cellsOf(s) - 1);
        }

        private void moveOn(int s, int first, int end) {
            int free = streets.cellsOf(s) - 1;
            for (int place = first; place < end; place++) {
                int cell = at(cellsAt, place);
                if (cell < free) {
                    cell++;
                    put(cellsAt, place, cell);
                }
                free = cell - 1;
            }
        }

        private void mix(int first, int end) {
            for (int place = first; place + 1 < end; place++) {
                if (at(cellsAt, place) == at(cellsAt, place + 1) + 1 && at(order, place) > at(order, place + 1)) {
                    swapPlaces(place, place + 1);
                    return;
                }
            }
        }

        private void swapPlaces(int place, int otherPlace) {
            int k = at(order, place);
            put(order, place, at(order, otherPlace));
            put(order, otherPlace, k);
        }

        private void stand(int place, int standing, int s, int c) {
            put(standings, place, standing);
            put(streetsAt, place, s);
            put(cellsAt, place, c);
        }
    }

    /** The numbers of about(). */
    private static final class Measures {
        private final int[] rises = new int[MOST_WALKERS];

        int numberOf(Town town, int what) {
            switch (what) {
                case 0: return town.walkers;
                case 1: return town.streets.count;
                case 2: return town.time;
                case 3: return town.countStanding(Town.AT_START);
                case 4: return town.countStanding(Town.IN_CELL);
                case 5: return town.countStanding(Town.IN_CROWD);
                case 6: return town.come();
                case 7: return town.wrongPairs();
                case 8: return longestRise(town);
                case 9: return rightLetters(town);
                case 10: return mendingExchanges(town);
                case 11: return town.rule;
                default: return town.mixing;
            }
        }

        private int longestRise(Town town) {
            int longest = 0;
            for (int place = 0; place < town.walkers; place++) {
                int rise = 1;
                for (int ahead = 0; ahead < place; ahead++) {
                    if (town.walkerAt(ahead) < town.walkerAt(place)) {
                        rise = Math.max(rise, at(rises, ahead) + 1);
                    }
                }
                put(rises, place, rise);
                longest = Math.max(longest, rise);
            }
            return longest;
        }

        private int rightLetters(Town town) {
            int right = 0;
            for (int place = 0; place < town.walkers; place++) {
                if (town.letterOf(town.walkerAt(place)) == town.letterOf(place)) {
                    right++;
                }
            }
            return right;
        }

        /** Each ring of walkers who stand in one another's places takes one exchange fewer than it has walkers. */
        private int mendingExchanges(Town town) {
            int seen = 0;
            int rings = 0;
            for (int start = 0; start < town.walkers; start++) {
                if ((seen >> start & 1) == 0) {
                    rings++;
                }
                int place = start;
                for (int i = 0; i < town.walkers && (seen >> place & 1) == 0; i++) {
                    seen |= 1 << place;
                    place = town.walkerAt(place);
                }
            }
            return town.walkers - rings;
        }
    }

    /** The commands of runScript(), each a group of six digits. */
    private static final class Script {
        static final long GROUP = 1000000L;

        /** The script without its last groups. */
        static long groupFromEnd(long script, int groups) {
            long rest = script;
            for (int i = 0; i < groups; i++) {
                rest /= GROUP;
            }
            return rest;
        }

        static boolean succeeds(Town town, int group) {
            int second = group / 10000 % 10;
            int third = group / 1000 % 10;
            int lastTwo = group % 100;
            int last = group % 10;
            if (!hasZerosInPlace(group)) {
                return false;
            }
            switch (group / 100000) {
                case 1: return town.triesTicks(lastTwo);
                case 2: return town.triesExchange(second, third);
                case 3: return town.triesShift(second, lastTwo);
                case 4: return town.triesSetting(second, last);
                case 5: town.sendBack();
                        return true;
                case 6: return town.hasWalker(third) && town.placeOf(third) == second;
                case 7: return town.wrongPairs() <= lastTwo;
                case 8: return town.come() >= lastTwo;
                case 9: return town.hasWalker(second) && town.standingOf(second) == last;
                default: return false;
            }
        }

        private static boolean hasZerosInPlace(int group) {
            switch (group / 100000) {
                case 1:
                case 7:
                case 8: return group / 100 % 1000 == 0;
                case 2:
                case 6: return group % 1000 == 0;
                case 3: return group / 100 % 100 == 0;
                case 4:
                case 9: return group / 10 % 1000 == 0;
                case 5: return group % 100000 == 0;
                default: return false;
            }
        }
    }

    /** The remembered states, the oldest of which gives way to the fifteenth. */
    private static final class History {
        private static final int MOST = 14;

        int count;
        private final Town[] states = new Town[MOST];
        private int next;

        History() {
            for (int i = 0; i < states.length; i++) {
                states[i] = new Town();
            }
        }

        void forgetAll() {
            count = 0;
        }

        void remember(Town town) {
            Town state = stateAt(next);
            if (state == null) {
                return;
            }
            state.become(town);
            next = (next + 1) % MOST;
            count = Math.min(count + 1, MOST);
        }

        void takeBack(Town town) {
            int last = (next + MOST - 1) % MOST;
            Town state = stateAt(last);
            if (state == null || count == 0) {
                return;
            }
            town.become(state);
            next = last;
            count--;
        }

        private Town stateAt(int i) {
            return i >= 0 && i < states.length ? states[i] : null;
        }
    }

    private static final class Slot {
        final Town saved = new Town();
        boolean filled;
    }
}
