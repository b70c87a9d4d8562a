/** Each sentence about raw bits that names an edge, on both sides of it. */
public final class RawEdgesTest {
    private RawEdgesTest() {
    }

    public static void main(String[] args) {
        fillsFromTheHighestBit();
        behindA255SevenBits();
        behindA254EightBits();
        a255BeforeTheSegment();
        endOfAByteThatIsNotFull();
        endOfAFullByte();
        endOfAByteBehindA255();
        last255IsTakenAway();
        last255BeforeTheSegmentStays();
        readsHighestBitPassedOver();
        readsBehindA254();
        readsA255BeforeThePlace();
        readsOnesBehindTheEnd();
        readsNoneOfTheBytes();
        Checks.end();
    }

    private static LikelyBits raw(long bits, int n) {
        LikelyBits x = new LikelyBits();
        x.open(true);
        x.write(-1, bits, n);
        return x;
    }

    private static void openBytes(long bits, int n, String bytes, int room) {
        LikelyBits x = raw(bits, n);
        Checks.due("raw " + bits + ", " + n + " bits: bytes", Checks.bytes(x), bytes);
        Checks.due("raw " + bits + ", " + n + " bits: room", x.register(2), room);
    }

    private static void endAs(long bits, int n, String bytes) {
        for (int way = 0; way < 2; way++) {
            LikelyBits x = raw(bits, n);
            int length = x.close(way);
            Checks.due("raw " + bits + ", " + n + " bits, closed: bytes", Checks.bytes(x), bytes);
            Checks.due("raw " + bits + ", " + n + " bits, closed: how many", length, x.at(-1));
        }
    }

    private static LikelyBits reading(int... bytes) {
        LikelyBits x = new LikelyBits();
        Checks.putAll(x, bytes);
        x.read(true, 0, bytes.length);
        return x;
    }

    /** "bits fill bytes from the highest bit on": the eighth ends a byte, the ninth begins one. */
    private static void fillsFromTheHighestBit() {
        openBytes(1, 1, "128", 7);
        openBytes(0b1100101, 7, "202", 1);
        openBytes(0b11001011, 8, "203", 0);
        openBytes(0b110010111, 9, "203 128", 7);
        openBytes(0b110010110, 9, "203 0", 7);
    }

    /** "a byte behind a 255 of the segment has 0 as highest bit and seven others". */
    private static void behindA255SevenBits() {
        openBytes(-1, 8, "255", 0);
        openBytes(-1, 9, "255 64", 6);
        openBytes(-1, 14, "255 126", 1);
        openBytes(-1, 15, "255 127", 0);
        openBytes(-1, 16, "255 127 128", 7);
        openBytes(-1, 23, "255 127 255", 0);
        openBytes(-1, 24, "255 127 255 64", 6);
        openBytes(0x00FF, 16, "0 255", 0);
        openBytes(0xFF00, 16, "255 0 0", 7);
    }

    private static void behindA254EightBits() {
        openBytes(0xFEFF >> 1, 15, "254 254", 1);
        openBytes(0xFEFF, 16, "254 255", 0);
        openBytes(0xFE80, 16, "254 128", 0);
        openBytes(0x7FFF, 16, "127 255", 0);
    }

    /** "of the segment": what stands before it doesn't matter. */
    private static void a255BeforeTheSegment() {
        for (int before : new int[] {255, 254}) {
            LikelyBits x = new LikelyBits();
            x.put(before);
            x.open(true);
            x.write(-1, 0x80, 8);
            Checks.due("raw behind " + before, Checks.bytes(x), before + " 128");
            Checks.due("raw behind " + before + ": room", x.register(2), 0);
        }
    }

    /** "It ends, if its last byte isn't full: that is filled with 0, 1, 0, 1, ..": 7 free bits to 1. */
    private static void endOfAByteThatIsNotFull() {
        int[] ones = {0b10101010, 0b11010101, 0b11101010, 0b11110101, 0b11111010, 0b11111101, 0b11111110};
        int[] zeros = {0b00101010, 0b00010101, 0b00001010, 0b00000101, 0b00000010, 0b00000001, 0b00000000};
        for (int n = 1; n <= 7; n++) {
            endAs(-1, n, "" + ones[n - 1]);
            endAs(0, n, "" + zeros[n - 1]);
        }
    }

    private static void endOfAFullByte() {
        endAs(0, 8, "0");
        endAs(0xFE, 8, "254");
        endAs(0x1234, 16, "18 52");
        endAs(0x1234 << 1, 17, "18 52 42");
        LikelyBits none = new LikelyBits();
        none.open(true);
        Checks.due("raw, nothing written, closed", none.close(0), 0);
        Checks.due("raw, nothing written, closed: how many bytes", none.at(-1), 0);
    }

    /** A byte behind a 255 is full with seven bits: six of them are filled, seven aren't. */
    private static void endOfAByteBehindA255() {
        endAs(-1, 9, "255 85");
        endAs(-1, 13, "255 125");
        endAs(-1, 14, "255 126");
        endAs(-1, 15, "255 127");
        endAs(-1, 16, "255 127 170");
        endAs(0xFF00, 16, "255 0 42");
    }

    /** "In each case a last byte of 255 is taken away at the end": the raw case. */
    private static void last255IsTakenAway() {
        endAs(-1, 8, "");
        endAs(0x12FF, 16, "18");
        endAs(0x12FE, 16, "18 254");
        endAs(-1, 23, "255 127");
        endAs(-1, 22, "255 127 254");
        endAs(-1, 24, "255 127 255 85");
    }

    private static void last255BeforeTheSegmentStays() {
        for (int way = 0; way < 2; way++) {
            LikelyBits x = new LikelyBits();
            x.put(255);
            x.open(true);
            Checks.due("raw, nothing written behind a 255", x.close(way), 0);
            x.open(true);
            x.write(-1, 255, 8);
            Checks.due("raw, a 255 behind a 255", x.close(way), 0);
            Checks.due("raw, a 255 behind a 255: bytes", Checks.bytes(x), "255");
        }
    }

    /** "(of a byte behind a 255 the highest bit is passed over, whatever it is)". */
    private static void readsHighestBitPassedOver() {
        for (int highest : new int[] {0, 128}) {
            LikelyBits x = reading(255, highest + 0x35, 0x9A);
            Checks.due("raw bits, 255 and " + (highest + 0x35), x.bits(-1, 23), 0xFFL << 15 | 0x35 << 8 | 0x9A);
        }
        // A 255 that stands behind a 255 is itself one: the byte behind it has seven bits, too.
        LikelyBits x = reading(255, 255, 0x81, 0x42);
        Checks.due("raw bits, 255 and 255", x.bits(-1, 30), (0x7FFFL << 7 | 1) << 8 | 0x42);
    }

    private static void readsBehindA254() {
        Checks.due("raw bits, 254 and 181", reading(254, 0xB5).bits(-1, 16), 0xFEB5);
        Checks.due("raw bits, 127 and 255", reading(127, 255).bits(-1, 16), 0x7FFF);
    }

    private static void readsA255BeforeThePlace() {
        LikelyBits x = new LikelyBits();
        Checks.putAll(x, 255, 0xB5, 0x10);
        x.read(true, 1, 2);
        Checks.due("raw bits from place 1 on", x.bits(-1, 16), 0xB510);
        x.read(true, 0, 3);
        Checks.due("raw bits from place 0 on", x.bits(-1, 23), 0xFFL << 15 | 0x35 << 8 | 0x10);
    }

    /** "behind them it finds bytes 255 without end", and not those that stand there. */
    private static void readsOnesBehindTheEnd() {
        LikelyBits x = new LikelyBits();
        Checks.putAll(x, 0x12, 0, 0);
        x.read(true, 0, 1);
        Checks.due("the byte itself", x.bits(-1, 8), 0x12);
        Checks.due("how many were begun", x.register(3), 1);
        for (int i = 0; i < 20; i++) {
            Checks.due("raw bits behind the end", x.bits(-1, 64), -1);
            Checks.due("how many were begun, behind the end", x.register(3), 1);
        }
        x.read(true, 0, 2);
        Checks.due("raw bits of two bytes and behind them", x.bits(-1, 20), 0x1200F);
        Checks.due("how many of two were begun", x.register(3), 2);
    }

    private static void readsNoneOfTheBytes() {
        LikelyBits x = new LikelyBits();
        Checks.putAll(x, 0, 0);
        for (int place = 0; place <= 2; place++) {
            x.read(true, place, 0);
            Checks.due("raw bits of none of the bytes", x.bits(-1, 64), -1);
            Checks.due("how many of none were begun", x.register(3), 0);
        }
    }
}
