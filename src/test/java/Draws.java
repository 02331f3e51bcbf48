/** The numbers that are drawn, as the document tells them. */
final class Draws {
    private Draws() {
    }

    /** The place, from 0, that the draw of this number, from 1, finds among so many. */
    static int place(int number, int among) {
        long x = 1;
        for (int i = 0; i < number; i++) {
            x = x * 6364136223846793005L + 1442695040888963407L;
        }
        return (int) (x >>> 33) % among;
    }
}
