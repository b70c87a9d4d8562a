/** The table of the 47 states, as the document writes it, seen through the writer and the reader. */
public final class StatesTest {
    private static final String TABLE =
        "22017 1 1, 13313 2 6, 6145 3 9, 2753 4 12, 1313 5 29, 545 38 33, 22017 7 6, 21505 8 14, "
        + "18433 9 14, 14337 10 14, "
        + "12289 11 17, 9217 12 18, 7169 13 20, 5633 29 21, 22017 15 14, 21505 16 14, 20737 17 15, "
        + "18433 18 16, 14337 19 17, 13313 20 18, "
        + "12289 21 19, 10241 22 19, 9217 23 20, 8705 24 21, 7169 25 22, 6145 26 23, 5633 27 24, "
        + "5121 28 25, 4609 29 26, 4353 30 27, "
        + "2753 31 28, 2497 32 29, 2209 33 30, 1313 34 31, 1089 35 32, 673 36 33, 545 37 34, "
        + "321 38 35, 273 39 36, 133 40 37, "
        + "73 41 38, 37 42 39, 21 43 40, 9 44 41, 5 45 42, 1 45 43, 22017 46 46";

    private StatesTest() {
    }

    public static void main(String[] args) {
        String[] rows = TABLE.split(", ");
        Checks.due("states in the table", rows.length, 47);
        for (int state = 0; state < rows.length; state++) {
            String[] row = rows[state].split(" ");
            int part = Integer.parseInt(row[0]);
            int next = Integer.parseInt(row[1]);
            int other = Integer.parseInt(row[2]);
            for (int likely = 0; likely < 2; likely++) {
                writesLikely(state, likely, part, next);
                writesOther(state, likely, part, other);
            }
        }
        Checks.end();
    }

    private static boolean turns(int state) {
        return state == 0 || state == 6 || state == 14;
    }

    private static int doubled(int size) {
        int grown = size;
        while (grown < 32768) {
            grown *= 2;
        }
        return grown;
    }

    private static void writesLikely(int state, int likely, int part, int next) {
        LikelyBits x = new LikelyBits();
        x.context(false, 0, state, likely);
        x.context(true, 0, state, likely);
        x.open(false);
        x.write(0, likely, 1);
        int rest = 32768 - part;
        int size = doubled(Math.max(rest, part));
        Checks.due("likely bit in state " + state + ": SIZE", x.register(1), size);
        Checks.due("likely bit in state " + state + ": next", x.state(false, 0), 2 * next + likely);
        readsBack(x, state, likely, size);
    }

    private static void writesOther(int state, int likely, int part, int other) {
        LikelyBits x = new LikelyBits();
        x.context(false, 0, state, likely);
        x.context(true, 0, state, likely);
        x.open(false);
        x.write(0, 1 - likely, 1);
        int rest = 32768 - part;
        int size = doubled(Math.min(rest, part));
        int likelyThen = turns(state) ? 1 - likely : likely;
        Checks.due("other bit in state " + state + ": SIZE", x.register(1), size);
        Checks.due("other bit in state " + state + ": other", x.state(false, 0), 2 * other + likelyThen);
        readsBack(x, state, 1 - likely, size);
    }

    private static void readsBack(LikelyBits x, int state, int bit, int size) {
        x.read(false, 0, x.close(0));
        Checks.due("bit read in state " + state, x.bits(0, 1), bit);
        Checks.due("bit read in state " + state + ": SIZE", x.register(4), size);
        Checks.due("bit read in state " + state + ": context", x.state(true, 0), x.state(false, 0));
    }
}
