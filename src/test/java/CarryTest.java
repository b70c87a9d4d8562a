/** A byte goes out with LOW just at 2^27, or just below it, behind all kinds of last bytes. */
public final class CarryTest {
    private static final int EVEN_STATE = 46;
    private static final int SMALLEST_PART_STATE = 45;
    private static final int[] STATES = {14, 19, 12, 25, 30, 34, 38, 40, 42, 43, 44, 45};
    private static final int[] PARTS = {22017, 13313, 7169, 6145, 2753, 1089, 273, 73, 21, 9, 5, 1};
    private static final int TRIES = 4000;

    private static long seed = 7;

    private final LikelyBits x = new LikelyBits();
    private final Model model = new Model();

    private CarryTest() {
        x.open(false);
        model.open(false);
    }

    public static void main(String[] args) {
        int[] lasts = new int[257];
        for (int i = 0; i < TRIES; i++) {
            long same = seed;
            int last = new CarryTest().goesOut(0);
            lasts[last < 0 ? 256 : last]++;
            seed = same;
            new CarryTest().goesOut(1);
        }
        Checks.due("carries were made", TRIES - lasts[256] > TRIES / 10 ? 1 : 0, 1);
        Checks.due("one of them into a 254", lasts[254] > 0 ? 1 : 0, 1);
        Checks.end();
    }

    private void write(int state, int bit) {
        x.context(false, 0, state, 0);
        model.context(false, 0, state, 0);
        Checks.due("write", Checks.outcome(() -> x.write(0, bit, 1)), model.write(0, bit, 1));
    }

    private static int anyBit() {
        seed = seed * 6364136223846793005L + 1442695040888963407L;
        return (int) (seed >>> 40) & 1;
    }

    /** How much LOW lacks to be 2^27 when the next byte is out. */
    private int lack() {
        return (1 << 27 - x.register(2)) - x.register(0);
    }

    private boolean canGrow() {
        int last = x.at(-1) == 0 ? 255 : x.at(x.at(-1) - 1);
        return last != 255 && lack() > 0 && lack() <= x.register(1) - 32768;
    }

    /**
     * LOW is 2^27 when the byte is out, or as little below it as can be. Answers the byte that had been the
     * last one, as it was before; -1 if this try came to none.
     */
    private int goesOut(int below) {
        for (int i = 0; i < 120 && !canGrow(); i++) {
            write(EVEN_STATE, anyBit());
        }
        if (!canGrow()) {
            return -1;
        }
        int place = x.at(-1) - 1;
        int last = x.at(place);
        for (int i = 0; i < STATES.length; i++) {
            while (lack() - below >= PARTS[i]) {
                write(STATES[i], 0);
            }
        }
        // The other bit of the smallest part leaves LOW as it is, and doubles it fifteen times.
        write(SMALLEST_PART_STATE, 1);
        Checks.due("the byte that takes a carry", x.at(place), last + 1 - below);
        Checks.due("the byte behind it", x.at(place + 1), 255 * below);
        Checks.due("what is seen then", Checks.seen(x), model.seen());
        return last;
    }
}
