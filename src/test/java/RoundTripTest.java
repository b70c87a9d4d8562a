/** What is written is read again, whatever the way of ending; and no byte behind a 255 is above 143. */
public final class RoundTripTest {
    private static final int ROUNDS = 2000;
    private static final int WRITES = 60;

    private static long seed = 99;

    private RoundTripTest() {
    }

    /** What the calls of write were given, and the contexts at the beginning, as state() tells them. */
    private record Written(long[] bits, int[] widths, int[] contexts, int[] states) {
    }

    public static void main(String[] args) {
        for (int round = 0; round < ROUNDS; round++) {
            roundTrip(round, round % 3 == 0, round & 1);
        }
        Checks.end();
    }

    private static long any() {
        seed = seed * 6364136223846793005L + 1442695040888963407L;
        long mixed = (seed ^ seed >>> 29) * 0xBF58476D1CE4E5B9L;
        return mixed ^ mixed >>> 32;
    }

    private static int below(int bound) {
        return (int) Long.remainderUnsigned(any(), bound);
    }

    private static void roundTrip(int round, boolean raw, int way) {
        LikelyBits x = new LikelyBits();
        int place = below(3);
        for (int k = 0; k < place; k++) {
            x.put(255);
        }
        int[] states = new int[19];
        for (int k = 0; k < 19; k++) {
            states[k] = below(94);
            x.context(false, k, states[k] / 2, states[k] % 2);
        }
        int writes = 1 + below(WRITES);
        Written written = new Written(new long[writes], new int[writes], new int[writes], states);
        int half = writes / 2;
        int enough = 0;
        x.open(raw);
        for (int i = 0; i < writes; i++) {
            int n = 1 + below(64);
            written.widths[i] = n;
            written.bits[i] = (below(3) == 0 ? any() : -below(2)) & -1L >>> 64 - n;
            written.contexts[i] = raw ? -1 : below(19);
            x.write(written.contexts[i], written.bits[i], n);
            enough = i == half ? x.enough() : enough;
        }
        int length = x.close(way);
        lowBehind255(x, round, place, length, raw ? 127 : 143);
        readsBack(x, round, place, length, written, writes);
        if (enough <= length) {
            readsBack(x, round, place, enough, written, half + 1);
        }
    }

    private static void lowBehind255(LikelyBits x, int round, int place, int length, int most) {
        for (int k = place + 1; k < place + length; k++) {
            boolean high = x.at(k - 1) == 255 && x.at(k) > most;
            Checks.due("round " + round + ": byte " + k + " behind a 255 is too high", high ? 1 : 0, 0);
        }
        if (length > 0) {
            boolean ends = x.at(place + length - 1) == 255;
            Checks.due("round " + round + ": the last byte is 255", ends ? 1 : 0, 0);
        }
    }

    private static void readsBack(LikelyBits x, int round, int place, int length, Written written, int writes) {
        for (int k = 0; k < 19; k++) {
            x.context(true, k, written.states[k] / 2, written.states[k] % 2);
        }
        x.read(written.contexts[0] == -1, place, length);
        for (int i = 0; i < writes; i++) {
            long got = x.bits(written.contexts[i], written.widths[i]);
            Checks.due("round " + round + ": bits " + i, got, written.bits[i]);
        }
    }
}
