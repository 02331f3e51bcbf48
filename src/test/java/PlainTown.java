import java.util.ArrayList;
import java.util.Collections;
import java.util.List;
import java.util.regex.Matcher;
import java.util.regex.Pattern;

/**
 * The document once more, told as its words go: rows of cells, lists for crowds and the start.
 * It shares no thought with the program, so that a misreading would have to be made twice.
 */
final class PlainTown {
    static final class Road {
        int green;
        int red;
        int shift;
        int width;
        Integer[] cells;
        List<Integer> crowd = new ArrayList<>();
        List<Integer> read = new ArrayList<>();

        Road copy() {
            Road other = new Road();
            other.green = green;
            other.red = red;
            other.shift = shift;
            other.width = width;
            other.cells = cells.clone();
            other.crowd = new ArrayList<>(crowd);
            other.read = new ArrayList<>(read);
            return other;
        }

        boolean isGreen(int time) {
            return (time + shift) % (green + red) < green;
        }
    }

    static final class State {
        List<Integer> letters = new ArrayList<>();
        List<Integer> comeAt = new ArrayList<>();
        List<Integer> start = new ArrayList<>();
        List<Integer> come = new ArrayList<>();
        List<Road> roads = new ArrayList<>();
        int time;
        long x = 1;
        int[] settings = new int[2];

        State copy() {
            State other = new State();
            other.letters = new ArrayList<>(letters);
            other.comeAt = new ArrayList<>(comeAt);
            other.start = new ArrayList<>(start);
            other.come = new ArrayList<>(come);
            for (Road road : roads) {
                other.roads.add(road.copy());
            }
            other.time = time;
            other.x = x;
            other.settings = settings.clone();
            return other;
        }

        List<Integer> wholeFile() {
            List<Integer> all = new ArrayList<>(come);
            for (int s = roads.size() - 1; s >= 0; s--) {
                Road road = roads.get(s);
                all.addAll(road.crowd);
                for (int c = road.cells.length - 1; c >= 0; c--) {
                    if (road.cells[c] != null) {
                        all.add(road.cells[c]);
                    }
                }
            }
            all.addAll(start);
            return all;
        }

        void tick() {
            time++;
            for (int s = roads.size() - 1; s >= 0; s--) {
                leave(s);
                move(roads.get(s));
                if (settings[1] == 1) {
                    changePlaces(roads.get(s).cells);
                }
            }
            if (!start.isEmpty() && !roads.isEmpty() && roads.get(0).cells[0] == null) {
                roads.get(0).cells[0] = start.remove(0);
            }
        }

        private void leave(int s) {
            Road road = roads.get(s);
            if (!road.isGreen(time) || road.crowd.isEmpty()) {
                return;
            }
            boolean last = s == roads.size() - 1;
            if (!last && roads.get(s + 1).cells[0] != null) {
                return;
            }
            int index = 0;
            if (settings[0] == 1) {
                index = road.crowd.size() - 1;
            } else if (settings[0] == 2) {
                index = road.crowd.indexOf(Collections.min(road.crowd));
            } else if (settings[0] == 3) {
                x = x * 6364136223846793005L + 1442695040888963407L;
                index = (int) (x >>> 33) % road.crowd.size();
            }
            Integer walker = road.crowd.remove(index);
            road.read.add(walker);
            if (last) {
                come.add(walker);
                comeAt.set(walker, time);
            } else {
                roads.get(s + 1).cells[0] = walker;
            }
        }

        private static void move(Road road) {
            int end = road.cells.length - 1;
            if (road.cells[end] != null && road.crowd.size() < road.width) {
                road.crowd.add(road.cells[end]);
                road.cells[end] = null;
            }
            for (int c = end - 1; c >= 0; c--) {
                if (road.cells[c] != null && road.cells[c + 1] == null) {
                    road.cells[c + 1] = road.cells[c];
                    road.cells[c] = null;
                }
            }
        }

        private static void changePlaces(Integer[] cells) {
            for (int c = cells.length - 1; c > 0; c--) {
                if (cells[c] != null && cells[c - 1] != null && cells[c] > cells[c - 1]) {
                    Integer ahead = cells[c];
                    cells[c] = cells[c - 1];
                    cells[c - 1] = ahead;
                    return;
                }
            }
        }

        static int inversions(List<Integer> row) {
            int pairs = 0;
            for (int low = 0; low < row.size(); low++) {
                for (int high = low + 1; high < row.size(); high++) {
                    if (row.get(low) > row.get(high)) {
                        pairs++;
                    }
                }
            }
            return pairs;
        }

        /** By trying every choice of places. */
        private static int longestRise(List<Integer> row) {
            int longest = 0;
            for (int choice = 0; choice < 1 << row.size(); choice++) {
                int before = -1;
                boolean rises = true;
                for (int i = 0; i < row.size(); i++) {
                    if ((choice >> i & 1) == 1) {
                        rises &= row.get(i) > before;
                        before = row.get(i);
                    }
                }
                if (rises) {
                    longest = Math.max(longest, Integer.bitCount(choice));
                }
            }
            return longest;
        }

        /** By putting one walker after another into place, which is the fewest. */
        private static int exchangesToSort(List<Integer> row) {
            List<Integer> sorted = new ArrayList<>(row);
            int made = 0;
            for (int place = 0; place < sorted.size(); place++) {
                int now = sorted.indexOf(place);
                if (now != place) {
                    Collections.swap(sorted, now, place);
                    made++;
                }
            }
            return made;
        }

        int about(int what) {
            List<Integer> all = wholeFile();
            int inCells = 0;
            int inCrowds = 0;
            for (Road road : roads) {
                inCrowds += road.crowd.size();
                for (Integer walker : road.cells) {
                    inCells += walker == null ? 0 : 1;
                }
            }
            int right = 0;
            for (int place = 0; place < all.size(); place++) {
                right += letters.get(all.get(place)).equals(letters.get(place)) ? 1 : 0;
            }
            int[] numbers = {letters.size(), roads.size(), time, start.size(), inCells, inCrowds, come.size(),
                inversions(all), what == 8 ? longestRise(all) : 0, right, exchangesToSort(all), settings[0], settings[1]};
            return numbers[what];
        }

        int exchange(int k, int other) {
            int before = about(7);
            List<List<Integer>> lists = new ArrayList<>();
            lists.add(start);
            for (Road road : roads) {
                lists.add(road.crowd);
                for (int c = 0; c < road.cells.length; c++) {
                    if (road.cells[c] != null && (road.cells[c] == k || road.cells[c] == other)) {
                        road.cells[c] = k + other - road.cells[c];
                    }
                }
            }
            for (List<Integer> list : lists) {
                for (int i = 0; i < list.size(); i++) {
                    if (list.get(i) == k || list.get(i) == other) {
                        list.set(i, k + other - list.get(i));
                    }
                }
            }
            return before - about(7);
        }

        int allIn() {
            State other = copy();
            for (int gone = 0; gone <= 999; gone++) {
                if (other.come.size() == letters.size()) {
                    return gone;
                }
                other.tick();
            }
            return -1;
        }

        State afterTicks(int n) {
            State other = copy();
            for (int i = 0; i < n; i++) {
                other.tick();
            }
            return other;
        }
    }

    private static final Pattern WALK = Pattern.compile(
        "W(w[A-Z]|s(0[2-9]|1[0-9]|20)(0[1-9]|1[0-9]|20)([01][0-9]|20)[1-6]|b[0-3][0-3][0-9]"
        + "|r[0-3]|m[01]|x[0-9][0-9]|t(0[1-9]|[1-9][0-9]))*");

    private String text = "";
    State now = new State();
    private List<State> remembered = new ArrayList<>();
    private State[] slots = new State[2];

    private static void index(boolean good) {
        if (!good) {
            throw new IndexOutOfBoundsException();
        }
    }

    private static void argument(boolean good) {
        if (!good) {
            throw new IllegalArgumentException();
        }
    }

    private static void state(boolean good) {
        if (!good) {
            throw new IllegalStateException();
        }
    }

    private static boolean in(long v, long low, long high) {
        return v >= low && v <= high;
    }

    private void remember() {
        remembered.add(now.copy());
        if (remembered.size() > 14) {
            remembered.remove(0);
        }
    }

    int append(int c) {
        argument(in(c, 0, 255));
        state(text.length() < 120);
        text += (char) c;
        return text.length();
    }

    int clearText() {
        int before = text.length();
        text = "";
        return before;
    }

    int errorPosition() {
        for (int length = 1; length <= text.length(); length++) {
            Matcher matcher = WALK.matcher(text.substring(0, length));
            if (!matcher.matches() && !matcher.hitEnd()) {
                return length - 1;
            }
        }
        return WALK.matcher(text).matches() ? -1 : text.length();
    }

    private static int number(String digits) {
        return Integer.parseInt(digits);
    }

    int load() {
        state(WALK.matcher(text).matches());
        now = new State();
        int leftOut = 0;
        Matcher matcher = Pattern.compile("[a-z][A-Z0-9]+").matcher(text);
        while (matcher.find()) {
            String command = matcher.group();
            String rest = command.substring(1);
            try {
                switch (command.charAt(0)) {
                    case 'w' -> walker(rest.charAt(0) - 'A');
                    case 's' -> street(number(rest.substring(0, 2)), number(rest.substring(2, 4)),
                        number(rest.substring(4, 6)), number(rest.substring(6)));
                    case 'b' -> shift(number(rest.substring(0, 1)), number(rest.substring(1)));
                    case 'r' -> set(0, number(rest));
                    case 'm' -> set(1, number(rest));
                    case 'x' -> exchange(number(rest.substring(0, 1)), number(rest.substring(1)));
                    default -> ticks(number(rest));
                }
            } catch (RuntimeException e) {
                leftOut++;
            }
        }
        remembered.clear();
        slots = new State[2];
        return leftOut;
    }

    int about(int what) {
        argument(in(what, 0, 12));
        return now.about(what);
    }

    int walkerOf(int k, int what) {
        index(in(k, 0, now.letters.size() - 1));
        argument(in(what, 0, 5));
        int how = now.come.contains(k) ? 3 : 0;
        int street = -1;
        int cell = -1;
        for (int s = 0; s < now.roads.size(); s++) {
            Road road = now.roads.get(s);
            if (road.crowd.contains(k)) {
                how = 2;
                street = s;
            }
            for (int c = 0; c < road.cells.length; c++) {
                if (road.cells[c] != null && road.cells[c] == k) {
                    how = 1;
                    street = s;
                    cell = c;
                }
            }
        }
        int[] numbers = {now.letters.get(k), how, street, cell, now.wholeFile().indexOf(k), now.comeAt.get(k)};
        return numbers[what];
    }

    int streetOf(int s, int what) {
        index(in(s, 0, now.roads.size() - 1));
        argument(in(what, 0, 9));
        Road road = now.roads.get(s);
        int inCells = 0;
        for (Integer walker : road.cells) {
            inCells += walker == null ? 0 : 1;
        }
        int[] numbers = {road.cells.length, road.green, road.red, road.shift, road.width, inCells, road.crowd.size(),
            road.isGreen(now.time) ? 1 : 0, road.read.size(), State.inversions(road.read)};
        return numbers[what];
    }

    int cell(int s, int c) {
        index(in(s, 0, now.roads.size() - 1) && in(c, 0, now.roads.get(s).cells.length - 1));
        Integer walker = now.roads.get(s).cells[c];
        return walker == null ? -1 : walker;
    }

    int file(int place) {
        index(in(place, 0, now.letters.size() - 1));
        return now.wholeFile().get(place);
    }

    int read(int s, int i) {
        index(in(s, 0, now.roads.size() - 1));
        argument(i >= 0);
        List<Integer> read = now.roads.get(s).read;
        return i < read.size() ? read.get(i) : -1;
    }

    int walker(int letter) {
        argument(in(letter, 0, 25));
        state(now.letters.size() < 10);
        remember();
        now.start.add(now.letters.size());
        now.letters.add(letter);
        now.comeAt.add(-1);
        return now.letters.size() - 1;
    }

    int street(int cells, int green, int red, int width) {
        argument(in(cells, 2, 20) && in(green, 1, 20) && in(red, 0, 20) && in(width, 1, 6));
        state(now.roads.size() < 4 && now.come.isEmpty());
        remember();
        Road road = new Road();
        road.cells = new Integer[cells];
        road.green = green;
        road.red = red;
        road.width = width;
        now.roads.add(road);
        return now.roads.size() - 1;
    }

    int shift(int s, int shift) {
        index(in(s, 0, now.roads.size() - 1));
        argument(in(shift, 0, 39));
        remember();
        int before = now.roads.get(s).shift;
        now.roads.get(s).shift = shift;
        return before;
    }

    int letter(int k, int letter) {
        index(in(k, 0, now.letters.size() - 1));
        argument(in(letter, 0, 25));
        remember();
        return now.letters.set(k, letter);
    }

    int exchange(int k, int other) {
        index(in(k, 0, now.letters.size() - 1) && in(other, 0, now.letters.size() - 1));
        argument(k != other);
        state(!now.come.contains(k) && !now.come.contains(other));
        remember();
        return now.exchange(k, other);
    }

    int back() {
        remember();
        int away = now.letters.size() - now.start.size();
        now.start.clear();
        now.come.clear();
        for (int k = 0; k < now.letters.size(); k++) {
            now.start.add(k);
            now.comeAt.set(k, -1);
        }
        for (Road road : now.roads) {
            road.cells = new Integer[road.cells.length];
            road.crowd.clear();
            road.read.clear();
        }
        return away;
    }

    int set(int what, int v) {
        argument(in(what, 0, 1) && in(v, 0, what == 0 ? 3 : 1));
        remember();
        int before = now.settings[what];
        now.settings[what] = v;
        return before;
    }

    int ticks(int n) {
        argument(in(n, 1, 99));
        remember();
        int before = now.come.size();
        for (int i = 0; i < n; i++) {
            now.tick();
        }
        return now.come.size() - before;
    }

    int undo() {
        state(!remembered.isEmpty());
        now = remembered.remove(remembered.size() - 1);
        return remembered.size();
    }

    int allIn() {
        return now.allIn();
    }

    int later(int n, int what) {
        argument(in(n, 1, 500) && in(what, 3, 10));
        return now.afterTicks(n).about(what);
    }

    int bestRule() {
        int best = -1;
        int least = 1000;
        for (int rule = 0; rule < 4; rule++) {
            State other = now.copy();
            other.settings[0] = rule;
            int wrong = other.afterTicks(999).about(7);
            if (wrong < least) {
                least = wrong;
                best = rule;
            }
        }
        return best;
    }

    int bestShift(int s) {
        index(in(s, 0, now.roads.size() - 1));
        int best = -1;
        int least = Integer.MAX_VALUE;
        for (int shift = 0; shift < 40; shift++) {
            State other = now.copy();
            other.roads.get(s).shift = shift;
            int wait = other.allIn() < 0 ? 1000 : other.allIn();
            if (wait < least) {
                least = wait;
                best = shift;
            }
        }
        return best;
    }

    int bestExchange(int what) {
        argument(in(what, 0, 2));
        int[] best = {-1, -1, 0};
        for (int k = 0; k < now.letters.size(); k++) {
            for (int other = k + 1; other < now.letters.size(); other++) {
                if (!now.come.contains(k) && !now.come.contains(other)) {
                    int gain = now.copy().exchange(k, other);
                    if (gain > best[2]) {
                        best = new int[] {k, other, gain};
                    }
                }
            }
        }
        return best[what];
    }

    private PlainTown copyOfState() {
        PlainTown other = new PlainTown();
        other.now = now.copy();
        return other;
    }

    int runScript(int n, long script) {
        argument(in(n, 1, 3) && script >= 0 && Long.toString(script).length() <= 6 * n);
        PlainTown other = copyOfState();
        String digits = String.format("%0" + 6 * n + "d", script);
        for (int i = 0; i < n; i++) {
            boolean good;
            try {
                good = other.command(digits.substring(6 * i, 6 * i + 6));
            } catch (RuntimeException e) {
                good = false;
            }
            if (!good) {
                return i;
            }
        }
        return -1;
    }

    private boolean command(String d) {
        int second = d.charAt(1) - '0';
        int third = d.charAt(2) - '0';
        int two = Integer.parseInt(d.substring(4));
        int last = d.charAt(5) - '0';
        if (d.matches("1000..")) {
            ticks(two);
        } else if (d.matches("2..000")) {
            exchange(second, third);
        } else if (d.matches("3.00..")) {
            shift(second, two);
        } else if (d.matches("4.000.")) {
            set(second, last);
        } else if (d.matches("500000")) {
            back();
        } else if (d.matches("6..000")) {
            return file(second) == third;
        } else if (d.matches("7000..")) {
            return about(7) <= two;
        } else if (d.matches("8000..")) {
            return about(6) >= two;
        } else if (d.matches("9.000.")) {
            return walkerOf(second, 1) == last;
        } else {
            return false;
        }
        return true;
    }

    int simulate(long seed, int m) {
        argument(in(m, 1, 60));
        PlainTown other = copyOfState();
        long s = seed;
        for (int i = 0; i < m; i++) {
            s = s * 6364136223846793005L + 1442695040888963407L;
            int r = (int) (s >>> 33);
            int q = r / 8;
            try {
                switch (r % 8) {
                    case 0 -> other.walker(q % 26);
                    case 1 -> other.street(2 + q % 19, 1 + q / 32 % 20, q / 1024 % 21, 1 + q / 32768 % 6);
                    case 2 -> {
                        if (q / 256 % 2 == 0) {
                            other.exchange(q % 10, q / 16 % 10);
                        } else {
                            other.shift(q % 4, q / 8 % 40);
                        }
                    }
                    case 3 -> {
                        if (q / 4 % 2 == 0) {
                            other.set(0, q % 4);
                        } else {
                            other.set(1, q / 8 % 2);
                        }
                    }
                    default -> other.ticks(1 + q % 20);
                }
            } catch (RuntimeException e) {
                // What would throw an exception is left out.
            }
        }
        return 10000 * other.about(6) + 100 * other.about(7) + other.about(9);
    }

    int save(int slot) {
        index(in(slot, 0, 1));
        slots[slot] = now.copy();
        return now.time;
    }

    int restore(int slot) {
        index(in(slot, 0, 1));
        state(slots[slot] != null);
        now = slots[slot].copy();
        remembered.clear();
        return now.time;
    }
}
