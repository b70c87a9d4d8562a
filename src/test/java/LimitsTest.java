/**
 * How many bytes there can be. No 512 calls make so many, so these runs are longer than the document
 * tells; the limits are tested all the same, and that nothing is thrown by itself at them.
 */
public final class LimitsTest {
    private static final String UNSUPPORTED = "UnsupportedOperationException";

    private LimitsTest() {
    }

    public static void main(String[] args) {
        putsUpTo65536();
        writesUpTo65000(true);
        writesUpTo65000(false);
        codedBytesCountToo();
        segmentsInAFullRow();
        dearestWrites();
        readsOnAndOn();
        Checks.end();
    }

    private static LikelyBits with(int count) {
        LikelyBits x = new LikelyBits();
        for (int k = 0; k < count; k++) {
            x.put(k * 7 & 255);
        }
        return x;
    }

    private static void putsUpTo65536() {
        LikelyBits x = with(65535);
        Checks.due("put, the 65,536th", x.put(77), 65536);
        Checks.due("at(65535)", x.at(65535), 77);
        for (int k = 0; k < 65535; k++) {
            Checks.due("at(" + k + ")", x.at(k), k * 7 & 255);
        }
        Checks.refused("put, the 65,537th", UNSUPPORTED, x, () -> x.put(78));
        Checks.refused("put(256), the 65,537th", "IllegalArgumentException", x, () -> x.put(256));
        x.read(true, 65535, 1);
        Checks.due("bits of the last byte", x.bits(-1, 8), 77);
        x.open(true);
        Checks.refused("put, full, a segment open", "IllegalStateException", x, () -> x.put(77));
        x.clear();
        Checks.due("put, cleared", x.put(77), 1);
    }

    private static void writesUpTo65000(boolean raw) {
        int context = raw ? -1 : 4;
        LikelyBits just = with(65000);
        just.open(raw);
        Checks.due("write behind 65,000 bytes", Checks.outcome(() -> just.write(context, 0, 8)), raw ? "1" : "0");
        LikelyBits x = with(65001);
        x.open(raw);
        Checks.refused("write behind more", UNSUPPORTED, x, () -> x.write(context, 0, 64));
        Checks.refused("write(99, ..) behind more", "IllegalArgumentException", x, () -> x.write(99, 0, 64));
        Checks.refused("write(.., 65) behind more", "IllegalArgumentException", x, () -> x.write(context, 0, 65));
        x.close(0);
        Checks.refused("write behind more, none open", "IllegalStateException", x, () -> x.write(context, 0, 1));
        // Bytes of the open segment count, too.
        LikelyBits y = with(64999);
        y.open(true);
        Checks.due("write, the 65,000th byte", y.write(-1, 0, 8), 1);
        Checks.due("write, the 65,001st byte", y.write(-1, 0, 8), 2);
        Checks.refused("write, the 65,002nd byte", UNSUPPORTED, y, () -> y.write(-1, 0, 8));
        Checks.due("close behind it", y.close(0), 2);
    }

    private static void codedBytesCountToo() {
        LikelyBits x = with(64999);
        x.open(false);
        Steps.write(x, "43-");
        Checks.due("bytes behind the first one out", x.at(-1), 65000);
        Steps.write(x, "39-");
        Checks.due("bytes behind the second one out", x.at(-1), 65001);
        Checks.refused("write, coded, more than 65,000", UNSUPPORTED, x, () -> x.write(0, 0, 1));
        Checks.due("enough() there", x.enough(), 7);
        Checks.due("close(1) there", x.close(1), 3);
        Checks.due("put there", x.put(5), 65003);
    }

    private static void segmentsInAFullRow() {
        LikelyBits x = with(65536);
        for (int i = 0; i < 8; i++) {
            x.open((i & 1) == 1);
            x.enough();
            x.close(i >> 1 & 1);
            Checks.due("no more than 65,536", x.at(-1) <= 65536 ? 1 : 0, 1);
        }
        x.read(false, 65536, 0);
        x.bits(0, 64);
    }

    /** Bits that were never expected make many bytes, so that the row widens within a segment. */
    private static void dearestWrites() {
        LikelyBits x = new LikelyBits();
        x.open(false);
        int length = 0;
        for (int i = 0; i < 255; i++) {
            x.context(false, 3, 45, 0);
            length = x.write(3, -1L, 64);
        }
        Checks.due("bytes of 255 dear writes", length > 255 * 8 ? 1 : 0, 1);
        int whole = x.close(0);
        x.read(false, 0, whole);
        for (int i = 0; i < 255; i++) {
            x.context(true, 3, 45, 0);
            Checks.due("bits of dear write " + i, x.bits(3, 64), -1L);
        }
    }

    private static void readsOnAndOn() {
        LikelyBits x = with(300);
        for (boolean raw : new boolean[] {true, false}) {
            x.read(raw, 0, 300);
            for (int i = 0; i < 20000; i++) {
                x.bits(raw ? -1 : i % 19, 64);
            }
            Checks.due("register(3) far behind the end", x.register(3) <= 300 ? 1 : 0, 1);
        }
    }
}
