/** Each promise of the document by itself: ordinary inputs, edges, and wrong inputs. */
public final class PromisesTest {
    private static final String ILLEGAL_ARGUMENT = "IllegalArgumentException";
    private static final String ILLEGAL_STATE = "IllegalStateException";
    private static final String OUT_OF_BOUNDS = "IndexOutOfBoundsException";

    private PromisesTest() {
    }

    public static void main(String[] args) {
        promise1NewObject();
        promise2Clear();
        promise3Put();
        promise4At();
        promise5Context();
        promise6State();
        promise7Open();
        promise8WriteCoded();
        promise8WriteRaw();
        promise8WriteRefuses();
        promise9Enough();
        promise10CloseCoded();
        promise10CloseRaw();
        promise10CloseRefuses();
        promise11Read();
        promise11ReadRefuses();
        promise12BitsCoded();
        promise12BitsRaw();
        promise12BitsRefuses();
        promise13RegisterOfSegment();
        promise13RegisterOfSource();
        Checks.end();
    }

    private static void promise1NewObject() {
        LikelyBits x = new LikelyBits();
        Checks.due("new: at(-1)", x.at(-1), 0);
        for (int k = 0; k < 19; k++) {
            Checks.due("new: state(false, " + k + ")", x.state(false, k), 0);
            Checks.due("new: state(true, " + k + ")", x.state(true, k), 0);
        }
        for (int w = 0; w < 5; w++) {
            Checks.due("new: register(" + w + ")", x.register(w), -1);
        }
        Checks.refused("new: enough()", ILLEGAL_STATE, x, x::enough);
        Checks.refused("new: bits(0, 1)", ILLEGAL_STATE, x, () -> x.bits(0, 1));
        Checks.refused("new: at(0)", OUT_OF_BOUNDS, x, () -> x.at(0));
        new LikelyBits().put(9);
        Checks.due("new: at(-1) beside another object", new LikelyBits().at(-1), 0);
    }

    private static void promise2Clear() {
        LikelyBits x = new LikelyBits();
        Checks.putAll(x, 1, 2, 3);
        x.context(false, 4, 20, 1);
        x.context(true, 5, 21, 1);
        x.open(false);
        x.write(0, 0x5A5AL, 16);
        int writer = x.state(false, 0);
        x.clear();
        Checks.due("cleared: at(-1)", x.at(-1), 0);
        Checks.refused("cleared: at(0)", OUT_OF_BOUNDS, x, () -> x.at(0));
        Checks.refused("cleared: close(0)", ILLEGAL_STATE, x, () -> x.close(0));
        Checks.refused("cleared: write", ILLEGAL_STATE, x, () -> x.write(0, 0, 1));
        Checks.due("cleared: register(0)", x.register(0), -1);
        Checks.due("cleared: state(false, 0)", x.state(false, 0), writer);
        Checks.due("cleared: state(false, 4)", x.state(false, 4), 41);
        Checks.due("cleared: state(true, 5)", x.state(true, 5), 43);
        Checks.due("cleared: put(200)", x.put(200), 1);
        Checks.due("cleared: at(0)", x.at(0), 200);

        x.read(true, 0, 1);
        x.clear();
        Checks.refused("cleared: bits", ILLEGAL_STATE, x, () -> x.bits(-1, 1));
        Checks.due("cleared: register(3)", x.register(3), -1);
        x.open(true);
        Checks.due("cleared: write(-1, 1, 1)", x.write(-1, 1, 1), 1);
    }

    private static void promise3Put() {
        LikelyBits x = new LikelyBits();
        Checks.due("put(0)", x.put(0), 1);
        Checks.due("put(255)", x.put(255), 2);
        Checks.due("put(255) again", x.put(255), 3);
        Checks.due("put(127)", x.put(127), 4);
        Checks.due("put: bytes", Checks.bytes(x), "0 255 255 127");
        for (int b : new int[] {-1, 256, 257, -256, Integer.MIN_VALUE, Integer.MAX_VALUE}) {
            Checks.refused("put(" + b + ")", ILLEGAL_ARGUMENT, x, () -> x.put(b));
        }
        x.read(true, 0, 4);
        x.bits(-1, 3);
        Checks.due("put(170) while bytes are read", x.put(170), 5);
        Checks.due("bits behind that put", x.bits(-1, 13), 0b0000011111111);
        x.open(true);
        Checks.refused("put(1), a segment open", ILLEGAL_STATE, x, () -> x.put(1));
        Checks.refused("put(256), a segment open", ILLEGAL_ARGUMENT, x, () -> x.put(256));
        x.close(0);
        Checks.due("put(1), the segment closed", x.put(1), 6);
    }

    private static void promise4At() {
        LikelyBits x = new LikelyBits();
        Checks.putAll(x, 17, 0, 255);
        Checks.due("at(-1)", x.at(-1), 3);
        Checks.due("at(0)", x.at(0), 17);
        Checks.due("at(1)", x.at(1), 0);
        Checks.due("at(2)", x.at(2), 255);
        for (int k : new int[] {3, -2, 256, 65536, Integer.MIN_VALUE, Integer.MAX_VALUE}) {
            Checks.refused("at(" + k + ")", OUT_OF_BOUNDS, x, () -> x.at(k));
        }
        x.open(true);
        x.write(-1, 0x1234, 16);
        Checks.due("at(-1), a segment open", x.at(-1), 5);
        Checks.due("at(3) of the open segment", x.at(3), 0x12);
        Checks.due("at(4) of the open segment", x.at(4), 0x34);
        Checks.refused("at(5), a segment open", OUT_OF_BOUNDS, x, () -> x.at(5));
    }

    private static void promise5Context() {
        LikelyBits x = new LikelyBits();
        x.context(false, 0, 46, 1);
        x.context(true, 18, 45, 0);
        x.context(true, 0, 1, 1);
        Checks.due("context: state(false, 0)", x.state(false, 0), 93);
        Checks.due("context: state(true, 18)", x.state(true, 18), 90);
        Checks.due("context: state(true, 0)", x.state(true, 0), 3);
        Checks.due("context: state(false, 18)", x.state(false, 18), 0);
        x.context(false, 0, 0, 0);
        Checks.due("context: state(false, 0) set again", x.state(false, 0), 0);
        for (boolean reader : new boolean[] {false, true}) {
            for (int k : new int[] {-1, 19, Integer.MIN_VALUE, Integer.MAX_VALUE}) {
                contextRefused(x, reader, k, 3, 1);
            }
            for (int state : new int[] {-1, 47, Integer.MIN_VALUE, Integer.MAX_VALUE}) {
                contextRefused(x, reader, 0, state, 1);
            }
            for (int likely : new int[] {-1, 2, Integer.MIN_VALUE, Integer.MAX_VALUE}) {
                contextRefused(x, reader, 18, 3, likely);
            }
        }
        x.open(false);
        x.context(false, 2, 5, 1);
        Checks.due("context while a segment is open", x.state(false, 2), 11);
    }

    private static void contextRefused(LikelyBits x, boolean reader, int k, int state, int likely) {
        String call = "context(" + reader + ", " + k + ", " + state + ", " + likely + ")";
        Checks.refused(call, ILLEGAL_ARGUMENT, x, () -> {
            x.context(reader, k, state, likely);
            return 0;
        });
    }

    private static void promise6State() {
        LikelyBits x = new LikelyBits();
        for (int k = 0; k < 19; k++) {
            x.context(false, k, k + 20, k & 1);
            x.context(true, k, k, 1 - (k & 1));
        }
        for (int k = 0; k < 19; k++) {
            Checks.due("state(false, " + k + ")", x.state(false, k), 2 * (k + 20) + (k & 1));
            Checks.due("state(true, " + k + ")", x.state(true, k), 2 * k + 1 - (k & 1));
        }
        for (int k : new int[] {-1, 19, Integer.MIN_VALUE, Integer.MAX_VALUE}) {
            Checks.refused("state(false, " + k + ")", ILLEGAL_ARGUMENT, x, () -> x.state(false, k));
            Checks.refused("state(true, " + k + ")", ILLEGAL_ARGUMENT, x, () -> x.state(true, k));
        }
    }

    private static void promise7Open() {
        LikelyBits x = new LikelyBits();
        Checks.putAll(x, 255, 255);
        x.context(false, 7, 12, 1);
        x.read(false, 0, 2);
        x.open(false);
        Checks.due("open: register(0)", x.register(0), 0);
        Checks.due("open: register(1)", x.register(1), 32768);
        Checks.due("open: register(2)", x.register(2), 12);
        Checks.due("open: register(3), nothing is read now", x.register(3), -1);
        Checks.due("open: register(4), nothing is read now", x.register(4), -1);
        Checks.refused("open: bits(0, 1)", ILLEGAL_STATE, x, () -> x.bits(0, 1));
        Checks.due("open: state(false, 7) stays", x.state(false, 7), 25);
        x.write(7, 0x77, 9);
        for (boolean raw : new boolean[] {false, true}) {
            Checks.refused("open(" + raw + ") in an open one", ILLEGAL_STATE, x, () -> {
                x.open(raw);
                return 0;
            });
        }
        x.close(1);
        Checks.refused("bits, the segment closed", ILLEGAL_STATE, x, () -> x.bits(0, 1));
        x.open(true);
        Checks.refused("open(true) in a raw one", ILLEGAL_STATE, x, () -> {
            x.open(true);
            return 0;
        });
        Checks.due("open(true): enough()", x.enough(), 0);
        x.write(-1, 1, 3);
        x.close(0);
        x.open(true);
        Checks.due("open(true) again: register(2)", x.register(2), 0);
        x.close(0);
        x.open(false);
        Checks.due("open(false) again: register(2)", x.register(2), 12);
    }

    private static void promise8WriteCoded() {
        LikelyBits x = new LikelyBits();
        x.open(false);
        // SIZE is 10751 then, below the part 22017: the likely bit has the part itself.
        Checks.due("write(0, 0, 1)", x.write(0, 0, 1), 0);
        Checks.due("write: LOW", x.register(0), 0);
        Checks.due("write: SIZE", x.register(1), 44034);
        Checks.due("write: ROOM", x.register(2), 11);
        Checks.due("write: state", x.state(false, 0), 2);
        // SIZE is 30721 then, not below the part 13313: the likely bit has what is above it.
        x.write(0, 0, 1);
        Checks.due("write: LOW", x.register(0), 2 * 13313);
        Checks.due("write: SIZE", x.register(1), 2 * 30721);
        Checks.due("write: state", x.state(false, 0), 4);
        // SIZE stays 32,768 or more: that is all.
        x.write(0, 0, 1);
        Checks.due("write: LOW", x.register(0), 2 * 13313 + 6145);
        Checks.due("write: SIZE", x.register(1), 2 * 30721 - 6145);
        Checks.due("write: ROOM", x.register(2), 10);
        Checks.due("write: state", x.state(false, 0), 4);
        // The other bit has the part 6145, which is doubled three times.
        x.write(0, 1, 1);
        Checks.due("write: LOW", x.register(0), (2 * 13313 + 6145) * 8);
        Checks.due("write: SIZE", x.register(1), 6145 * 8);
        Checks.due("write: ROOM", x.register(2), 7);
        Checks.due("write: state", x.state(false, 0), 18);
        // The other bit, with SIZE 10751 below the part, has what is above it; state 0 turns.
        LikelyBits y = new LikelyBits();
        y.open(false);
        y.write(18, 1, 1);
        Checks.due("write: LOW", y.register(0), 22017 * 4);
        Checks.due("write: SIZE", y.register(1), 10751 * 4);
        Checks.due("write: ROOM", y.register(2), 10);
        Checks.due("write: state", y.state(false, 18), 3);
        Checks.due("write: state of another context", y.state(false, 17), 0);
        Checks.due("write: state of the reader", y.state(true, 18), 0);
        highestFirst();
    }

    /** One call of n bits is n calls of one bit; the bits above the n lowest don't matter. */
    private static void highestFirst() {
        LikelyBits one = new LikelyBits();
        LikelyBits many = new LikelyBits();
        one.open(false);
        many.open(false);
        long bits = 0x9C3A55F00F1E2D4BL;
        for (int n : new int[] {64, 63, 33, 32, 31, 1}) {
            int length = 0;
            for (int i = n - 1; i >= 0; i--) {
                length = many.write(6, bits >> i, 1);
            }
            Checks.due("write(6, .., " + n + ")", one.write(6, bits, n), length);
        }
        Checks.due("write: one call or many", Checks.seen(one), Checks.seen(many));
    }

    private static void promise8WriteRaw() {
        LikelyBits x = new LikelyBits();
        x.put(255);
        x.open(true);
        // The 255 before the segment is none of its own, so its first byte takes eight bits.
        Checks.due("write(-1, 5, 3)", x.write(-1, 5, 3), 1);
        Checks.due("raw: bytes", Checks.bytes(x), "255 160");
        Checks.due("write(-1, 31, 5)", x.write(-1, 31, 5), 1);
        Checks.due("write(-1, 255, 8)", x.write(-1, 255, 8), 2);
        Checks.due("raw: bytes", Checks.bytes(x), "255 191 255");
        Checks.due("write(-1, 127, 7) behind a 255", x.write(-1, 127, 7), 3);
        Checks.due("write(-1, 2, 2)", x.write(-1, 2, 2), 4);
        Checks.due("raw: bytes", Checks.bytes(x), "255 191 255 127 128");
        Checks.due("raw: contexts stay", x.state(false, 0), 0);
        LikelyBits y = new LikelyBits();
        y.open(true);
        Checks.due("write(-1, -1, 64)", y.write(-1, -1L, 64), 9);
        Checks.due("raw: bytes", Checks.bytes(y), "255 127 255 127 255 127 255 127 240");
    }

    private static void promise8WriteRefuses() {
        LikelyBits x = new LikelyBits();
        Checks.refused("write, none open", ILLEGAL_STATE, x, () -> x.write(0, 1, 1));
        Checks.refused("write, none open, all wrong", ILLEGAL_STATE, x, () -> x.write(99, 1, 99));
        x.open(false);
        x.write(3, 0x123456789L, 40);
        for (int k : new int[] {-1, 19, -2, Integer.MIN_VALUE, Integer.MAX_VALUE}) {
            Checks.refused("write(" + k + ", 1, 1)", ILLEGAL_ARGUMENT, x, () -> x.write(k, 1, 1));
        }
        for (int n : new int[] {0, 65, -1, Integer.MIN_VALUE, Integer.MAX_VALUE}) {
            Checks.refused("write(3, 1, " + n + ")", ILLEGAL_ARGUMENT, x, () -> x.write(3, 1, n));
        }
        x.close(0);
        Checks.refused("write, closed", ILLEGAL_STATE, x, () -> x.write(3, 1, 1));
        x.open(true);
        x.write(-1, 5, 3);
        for (int k : new int[] {0, 18, 19, -2, Integer.MIN_VALUE, Integer.MAX_VALUE}) {
            Checks.refused("raw: write(" + k + ", 1, 1)", ILLEGAL_ARGUMENT, x, () -> x.write(k, 1, 1));
        }
        for (int n : new int[] {0, 65, -1, Integer.MIN_VALUE, Integer.MAX_VALUE}) {
            Checks.refused("raw: write(-1, 1, " + n + ")", ILLEGAL_ARGUMENT, x, () -> x.write(-1, 1, n));
        }
    }

    private static void promise9Enough() {
        LikelyBits x = new LikelyBits();
        Checks.putAll(x, 1, 2);
        Checks.refused("enough(), none open", ILLEGAL_STATE, x, x::enough);
        x.open(false);
        Checks.due("enough(), nothing written", x.enough(), 5);
        x.context(false, 1, 46, 0);
        int length = x.write(1, 0x0F0F3355L, 32);
        Checks.due("enough(), some written", x.enough(), length + 5);
        x.close(0);
        Checks.refused("enough(), closed", ILLEGAL_STATE, x, x::enough);
        x.open(true);
        Checks.due("raw: enough(), nothing written", x.enough(), 0);
        x.write(-1, 1, 8);
        Checks.due("raw: enough(), a byte", x.enough(), 1);
        x.write(-1, 1, 1);
        Checks.due("raw: enough(), a byte begun", x.enough(), 2);
    }

    private static void promise10CloseCoded() {
        LikelyBits x = new LikelyBits();
        Checks.putAll(x, 255);
        x.open(false);
        Checks.due("close(0), nothing written", x.close(0), 2);
        Checks.due("close(0): bytes", Checks.bytes(x), "255 255 127");
        Checks.due("close(0): register(0)", x.register(0), -1);
        x.open(false);
        Checks.due("close(1), nothing written", x.close(1), 0);
        // The 255 that stands before an empty segment is none of its own.
        x.put(255);
        x.open(false);
        Checks.due("close(1) behind a 255", x.close(1), 0);
        Checks.due("close(1): bytes", Checks.bytes(x), "255 255 127 255");

        // LOW 88068, SIZE 43004, ROOM 10: m is 131071, just below LOW + SIZE. Out go 255, 127.
        LikelyBits below = new LikelyBits();
        below.open(false);
        below.write(0, 1, 1);
        Checks.due("close(0) with m itself", below.close(0), 2);
        Checks.due("close(0) with m itself: bytes", Checks.bytes(below), "255 127");

        // LOW 0, SIZE 44034, ROOM 11: m is 65535, not below it. Out go 127, 255; the 255 is taken away.
        LikelyBits above = new LikelyBits();
        above.open(false);
        above.write(0, 0, 1);
        Checks.due("close(0) with m less 32,768", above.close(0), 1);
        Checks.due("close(0) with m less 32,768: bytes", Checks.bytes(above), "127");

        // LOW 88068, ROOM 10: n is 2, so one byte is out, 90181632 / 2^19.
        LikelyBits short1 = new LikelyBits();
        short1.open(false);
        short1.write(0, 1, 1);
        Checks.due("close(1), one bit", short1.close(1), 1);
        Checks.due("close(1), one bit: bytes", Checks.bytes(short1), "172");
    }

    private static void promise10CloseRaw() {
        for (int way = 0; way < 2; way++) {
            LikelyBits x = new LikelyBits();
            Checks.putAll(x, 255);
            x.open(true);
            Checks.due("raw: close, nothing written", x.close(way), 0);
            Checks.due("raw: bytes", Checks.bytes(x), "255");
            x.open(true);
            x.write(-1, 1, 1);
            Checks.due("raw: close, one bit", x.close(way), 1);
            x.open(true);
            x.write(-1, 0x12, 8);
            Checks.due("raw: close, a full byte", x.close(way), 1);
            x.open(true);
            x.write(-1, 0x1FF, 9);
            Checks.due("raw: close, a bit behind a 255", x.close(way), 2);
            x.open(true);
            x.write(-1, 0x12FF, 16);
            Checks.due("raw: close, a 255 at the end", x.close(way), 1);
            Checks.due("raw: bytes", Checks.bytes(x), "255 170 18 255 85 18");
        }
    }

    private static void promise10CloseRefuses() {
        LikelyBits x = new LikelyBits();
        Checks.refused("close(0), none open", ILLEGAL_STATE, x, () -> x.close(0));
        Checks.refused("close(2), none open", ILLEGAL_STATE, x, () -> x.close(2));
        for (boolean raw : new boolean[] {false, true}) {
            x.open(raw);
            x.write(raw ? -1 : 0, 0x2B, 6);
            for (int way : new int[] {-1, 2, Integer.MIN_VALUE, Integer.MAX_VALUE}) {
                Checks.refused("close(" + way + ")", ILLEGAL_ARGUMENT, x, () -> x.close(way));
            }
            x.close(1);
            Checks.refused("close(1) again", ILLEGAL_STATE, x, () -> x.close(1));
        }
    }

    private static void promise11Read() {
        LikelyBits x = new LikelyBits();
        Checks.putAll(x, 255, 0x12, 0x34, 0x56);
        x.read(true, 1, 2);
        // The 255 before the place is not of what is read: no bit is passed over.
        Checks.due("read(true, 1, 2): bits", x.bits(-1, 16), 0x1234);
        Checks.due("read(true, 1, 2): bits behind its end", x.bits(-1, 20), 0xFFFFF);
        x.read(true, 1, 2);
        Checks.due("read again, from the beginning", x.bits(-1, 12), 0x123);
        x.read(true, 3, 1);
        Checks.due("read another place", x.bits(-1, 8), 0x56);
        x.read(true, 4, 0);
        Checks.due("read none", x.bits(-1, 64), -1);
        x.read(true, 0, 0);
        Checks.due("read none of some", x.bits(-1, 64), -1);
        new LikelyBits().read(false, 0, 0);

        x.context(true, 2, 30, 1);
        x.read(false, 1, 3);
        Checks.due("read: the contexts stay", x.state(true, 2), 61);
        Checks.due("read: SIZE", x.register(4), 32768);
        x.context(true, 0, 46, 0);
        long first = x.bits(0, 20);
        x.read(false, 1, 3);
        Checks.due("read coded again, from the beginning", x.bits(0, 20), first);
    }

    private static void promise11ReadRefuses() {
        LikelyBits x = new LikelyBits();
        Checks.putAll(x, 0xA5, 2, 3);
        x.read(true, 0, 3);
        x.bits(-1, 4);
        int most = Integer.MAX_VALUE;
        int least = Integer.MIN_VALUE;
        int[][] wrong = {
            {0, 4}, {3, 1}, {4, 0}, {4, -1}, {-1, 1}, {-1, 0}, {0, -1}, {1, 3}, {most, 1}, {1, most},
            {most, most}, {least, 0}, {0, least}, {least, least}, {4, most}, {most, least},
        };
        for (int[] pair : wrong) {
            readRefused(x, true, pair[0], pair[1], ILLEGAL_ARGUMENT);
            readRefused(x, false, pair[0], pair[1], ILLEGAL_ARGUMENT);
        }
        Checks.due("a refused read leaves what is read", x.bits(-1, 4), 5);
        x.open(false);
        readRefused(x, false, 0, 3, ILLEGAL_STATE);
        readRefused(x, true, -1, 99, ILLEGAL_STATE);
    }

    private static void readRefused(LikelyBits x, boolean raw, int place, int n, String exception) {
        String call = "read(" + raw + ", " + place + ", " + n + ")";
        Checks.refused(call, exception, x, () -> {
            x.read(raw, place, n);
            return 0;
        });
    }

    private static void promise12BitsCoded() {
        LikelyBits x = new LikelyBits();
        x.open(false);
        long[] numbers = {0, 1, -1, 0x00000000FFFF0000L, 0x8000000000000001L, 0x0123456789ABCDEFL};
        int[] widths = {3, 1, 64, 50, 64, 61};
        for (int i = 0; i < numbers.length; i++) {
            x.write(i * 3, numbers[i], widths[i]);
        }
        int length = x.close(0);
        x.read(false, 0, length);
        for (int i = 0; i < numbers.length; i++) {
            long want = numbers[i] & (-1L >>> 64 - widths[i]);
            Checks.due("bits(" + i * 3 + ", " + widths[i] + ")", x.bits(i * 3, widths[i]), want);
            Checks.due("bits: the reader's context " + i * 3, x.state(true, i * 3), x.state(false, i * 3));
        }
        // Bytes that no writer makes: VALUE goes round, and a byte above 143 never comes.
        LikelyBits y = new LikelyBits();
        Checks.putAll(y, 255, 143, 255, 144, 7);
        y.read(false, 0, 5);
        Checks.due("bits(1, 30) of bytes made by hand", y.bits(1, 30), 1073729399L);
        Checks.due("bits(1, 64) of bytes made by hand", y.bits(1, 64), -1733890271776739334L);
    }

    private static void promise12BitsRaw() {
        LikelyBits x = new LikelyBits();
        Checks.putAll(x, 255, 143, 255, 127, 255, 255, 1);
        x.read(true, 0, 7);
        Checks.due("bits(-1, 15): the highest bit is passed over", x.bits(-1, 15), 0x7F8F);
        Checks.due("bits(-1, 15): a 0 is passed over, too", x.bits(-1, 15), 0x7FFF);
        Checks.due("bits(-1, 15): 255 behind 255", x.bits(-1, 15), 0x7FFF);
        Checks.due("bits(-1, 7): behind the second 255", x.bits(-1, 7), 1);
        Checks.due("bits(-1, 64): behind the end", x.bits(-1, 64), -1);
        Checks.due("raw: contexts stay", x.state(true, 0), 0);
    }

    private static void promise12BitsRefuses() {
        LikelyBits x = new LikelyBits();
        Checks.putAll(x, 0x5A, 0xC3, 0x17, 0x88);
        Checks.refused("bits, nothing read", ILLEGAL_STATE, x, () -> x.bits(0, 1));
        Checks.refused("bits, nothing read, all wrong", ILLEGAL_STATE, x, () -> x.bits(99, 99));
        x.read(false, 0, 4);
        x.context(true, 0, 46, 0);
        long whole = x.bits(0, 24);
        x.read(false, 0, 4);
        long front = x.bits(0, 12);
        for (int k : new int[] {-1, 19, -2, Integer.MIN_VALUE, Integer.MAX_VALUE}) {
            Checks.refused("bits(" + k + ", 1)", ILLEGAL_ARGUMENT, x, () -> x.bits(k, 1));
        }
        for (int n : new int[] {0, 65, -1, Integer.MIN_VALUE, Integer.MAX_VALUE}) {
            Checks.refused("bits(0, " + n + ")", ILLEGAL_ARGUMENT, x, () -> x.bits(0, n));
        }
        Checks.due("bits behind refused ones", front << 12 | x.bits(0, 12), whole);
        x.read(true, 0, 4);
        x.bits(-1, 4);
        for (int k : new int[] {0, 18, 19, -2, Integer.MIN_VALUE, Integer.MAX_VALUE}) {
            Checks.refused("raw: bits(" + k + ", 1)", ILLEGAL_ARGUMENT, x, () -> x.bits(k, 1));
        }
        for (int n : new int[] {0, 65, -1, Integer.MIN_VALUE, Integer.MAX_VALUE}) {
            Checks.refused("raw: bits(-1, " + n + ")", ILLEGAL_ARGUMENT, x, () -> x.bits(-1, n));
        }
        Checks.due("raw: bits behind refused ones", x.bits(-1, 8), 0xAC);
    }

    private static void promise13RegisterOfSegment() {
        LikelyBits x = new LikelyBits();
        x.open(false);
        x.write(0, 0, 1);
        int[] coded = {0, 44034, 11, -1, -1};
        for (int w = 0; w < coded.length; w++) {
            Checks.due("coded: register(" + w + ")", x.register(w), coded[w]);
        }
        noSuchRegister(x);
        x.close(0);
        for (int w = 0; w < coded.length; w++) {
            Checks.due("closed: register(" + w + ")", x.register(w), -1);
        }
        x.open(true);
        Checks.due("raw: register(0)", x.register(0), -1);
        Checks.due("raw: register(1)", x.register(1), -1);
        int[] widths = {0, 1, 7, 5, 3, 1, 6, 1, 7};
        // 8 bits, then a byte of 255, then a byte of seven bits, then one of eight again.
        int[] rooms = {0, 7, 0, 3, 0, 6, 0, 7, 0};
        for (int i = 0; i < widths.length; i++) {
            if (widths[i] > 0) {
                x.write(-1, i < 3 ? 0 : -1, widths[i]);
            }
            Checks.due("raw: register(2), step " + i, x.register(2), rooms[i]);
        }
        noSuchRegister(x);
    }

    private static void promise13RegisterOfSource() {
        LikelyBits x = new LikelyBits();
        Checks.putAll(x, 1, 2, 255, 144, 3);
        int[] came = {0, 1, 2, 2, 2, 2};
        for (int n = 0; n <= 5; n++) {
            x.read(false, 0, n);
            Checks.due("coded: register(3) of " + n + " bytes", x.register(3), came[n]);
            Checks.due("coded: register(4) of " + n + " bytes", x.register(4), 32768);
        }
        x.read(false, 2, 3);
        Checks.due("coded: register(3), the next above 143", x.register(3), 1);
        x.bits(0, 64);
        Checks.due("coded: register(3) stays there", x.register(3), 1);
        Checks.due("coded: register(0)", x.register(0), -1);
        noSuchRegister(x);

        LikelyBits y = new LikelyBits();
        Checks.putAll(y, 0, 0);
        y.read(false, 0, 2);
        y.bits(0, 1);
        Checks.due("coded: register(4)", y.register(4), 44034);

        x.read(true, 0, 5);
        Checks.due("raw: register(4)", x.register(4), -1);
        Checks.due("raw: register(3) at first", x.register(3), 0);
        int[] widths = {1, 7, 1, 7, 8, 7, 1, 7, 64};
        int[] begun = {1, 1, 2, 2, 3, 4, 5, 5, 5};
        for (int i = 0; i < widths.length; i++) {
            x.bits(-1, widths[i]);
            Checks.due("raw: register(3), step " + i, x.register(3), begun[i]);
        }
        x.read(true, 5, 0);
        x.bits(-1, 64);
        Checks.due("raw: register(3) of no bytes", x.register(3), 0);
    }

    private static void noSuchRegister(LikelyBits x) {
        for (int w : new int[] {-1, 5, Integer.MIN_VALUE, Integer.MAX_VALUE}) {
            Checks.due("register(" + w + ")", x.register(w), -1);
        }
    }
}
