/**
 * The test sequence of ITU-T T.88 (H.2), whose coder makes the same bytes: 256 bits in one context,
 * and what they become. It was made by others, so it also finds what this project misread.
 */
public final class KnownBitsTest {
    private static final long[] BITS = {
        0x00020051000000C0L, 0x0352872AAAAAAAAAL, 0x82C02000FCD79EF6L, 0xBF7FED904F46A3BFL,
    };
    private static final int[] BYTES = {
        0x84, 0xC7, 0x3B, 0xFC, 0xE1, 0xA1, 0x43, 0x04, 0x02, 0x20, 0x00, 0x00, 0x41, 0x0D, 0xBB,
        0x86, 0xF4, 0x31, 0x7F, 0xFF, 0x88, 0xFF, 0x37, 0x47, 0x1A, 0xDB, 0x6A, 0xDF,
    };

    private KnownBitsTest() {
    }

    public static void main(String[] args) {
        writes();
        reads();
        Checks.end();
    }

    private static void writes() {
        LikelyBits x = new LikelyBits();
        x.open(false);
        for (long word : BITS) {
            x.write(0, word, 64);
        }
        Checks.due("close(0)", x.close(0), BYTES.length);
        for (int k = 0; k < BYTES.length; k++) {
            Checks.due("at(" + k + ")", x.at(k), BYTES[k]);
        }
    }

    private static void reads() {
        LikelyBits x = new LikelyBits();
        Checks.putAll(x, BYTES);
        x.read(false, 0, BYTES.length);
        for (long word : BITS) {
            Checks.due("bits(0, 64)", x.bits(0, 64), word);
        }
    }
}
