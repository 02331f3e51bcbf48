import java.util.ArrayList;
import java.util.List;

/** Makes towns for the tests and tells all that can be seen of one. */
final class Towns {
    /** 120 signs: W, 58 times r0, and t01. */
    static final String LONGEST_WALK = "W" + "r0".repeat(58) + "t01";

    private Towns() {
    }

    static void write(PlacardWalkers x, String walk) {
        x.clearText();
        for (char c : walk.toCharArray()) {
            x.append(c);
        }
    }

    /** A town that is loaded: no state is remembered, both save slots are empty. */
    static PlacardWalkers of(String walk) {
        PlacardWalkers x = new PlacardWalkers();
        write(x, walk);
        x.load();
        return x;
    }

    static String file(PlacardWalkers x) {
        StringBuilder all = new StringBuilder();
        for (int place = 0; place < x.about(0); place++) {
            all.append(x.file(place));
        }
        return all.toString();
    }

    static String read(PlacardWalkers x, int s) {
        StringBuilder all = new StringBuilder();
        for (int i = 0; i < 100 && x.read(s, i) != PlacardWalkers.NONE; i++) {
            all.append(x.read(s, i));
        }
        return all.toString();
    }

    /** Each cell's walker, a dot for none. */
    static String cells(PlacardWalkers x, int s) {
        StringBuilder all = new StringBuilder();
        for (int c = 0; c < x.streetOf(s, 0); c++) {
            all.append(x.cell(s, c) == PlacardWalkers.NONE ? "." : String.valueOf(x.cell(s, c)));
        }
        return all.toString();
    }

    /** The whole state as it can be seen at once; what x is shows only in draws to come. */
    static String look(PlacardWalkers x) {
        List<Integer> seen = new ArrayList<>();
        for (int what = 0; what <= 12; what++) {
            seen.add(x.about(what));
        }
        for (int k = 0; k < x.about(0); k++) {
            for (int what = 0; what <= 5; what++) {
                seen.add(x.walkerOf(k, what));
            }
        }
        StringBuilder all = new StringBuilder(seen + " " + file(x));
        for (int s = 0; s < x.about(1); s++) {
            for (int what = 0; what <= 9; what++) {
                all.append(' ').append(x.streetOf(s, what));
            }
            all.append(' ').append(cells(x, s)).append(' ').append(read(x, s));
        }
        return all.toString();
    }
}
