/**
 * Each sentence about coded reading that names an edge, on both sides of it. The bytes are made by hand:
 * at the beginning VALUE / 2^16 is 128 * b0 + b1 / 2, or 128 * 255 + b1 behind a 255 (b1 up to 143).
 */
public final class ReaderEdgesTest {
    private ReaderEdgesTest() {
    }

    public static void main(String[] args) {
        beginning();
        firstByteBehind255();
        laterByteBehind255();
        byteBehind254();
        noneComesBehind144();
        byteInAtRoom0();
        roomBehind255();
        farBehindTheEnd();
        valueAtThePart();
        sizeAtThePart();
        likelyBitThatIsAll();
        doubledUntil32768();
        valueGoesRoundAt2To32();
        bytes255BehindTheEnd();
        noByteBehindTheEnd();
        noneOfTheBytes();
        noByteBeforeThePlace();
        contextsChangeAsInWriting();
        Checks.end();
    }

    /** The states of these steps give just these steps. */
    private static void reads(LikelyBits x, String steps) {
        Checks.due("bits read", Steps.read(x, steps.replaceAll("[+-]", "")), steps);
    }

    private static void came(LikelyBits x, int count) {
        Checks.due("how many bytes came", x.register(3), count);
    }

    private static void size(LikelyBits x, int size) {
        Checks.due("SIZE", x.register(4), size);
    }

    /** "VALUE .. is b0 * 2^16, SIZE 32,768", of all that is read anew. */
    private static void beginning() {
        LikelyBits x = Steps.reading(0x9C, 0x35, 0x71, 0x0E);
        size(x, 32768);
        came(x, 2);
        String states = "46 20 46 30 46 39 46 46 46";
        String first = Steps.read(x, states);
        x.read(false, 0, 4);
        size(x, 32768);
        came(x, 2);
        Checks.due("the same bits again", Steps.read(x, states), first);
    }

    /** "if the byte that came last (b0 at first) is 255 and the one behind it is above 143". */
    private static void firstByteBehind255() {
        // 143 comes: VALUE / 2^16 is 32783, which goes round to 28 in the first step.
        LikelyBits comes = Steps.reading(255, 143, 0, 0);
        came(comes, 2);
        reads(comes, "45+ 46- 46-");
        // 144 doesn't: VALUE / 2^16 is 32767, and 65533 behind the first step.
        LikelyBits stays = Steps.reading(255, 144, 0, 0);
        came(stays, 1);
        reads(stays, "45+ 46+ 46-");
        came(Steps.reading(255, 0, 0), 2);
        came(Steps.reading(255, 255, 0), 1);
    }

    /** The same of a 255 that came later: its next byte comes in with the second doubling. */
    private static void laterByteBehind255() {
        LikelyBits comes = Steps.reading(0, 255, 143, 0, 0);
        reads(comes, "46+ 46-");
        came(comes, 3);
        LikelyBits stays = Steps.reading(0, 255, 144, 0, 0);
        reads(stays, "46+ 46-");
        came(stays, 2);
    }

    /** "otherwise the next one comes", behind a 254 too, however high it is. */
    private static void byteBehind254() {
        for (int next : new int[] {0, 143, 144, 254, 255}) {
            came(Steps.reading(254, next, 0), 2);
        }
        // VALUE / 2^16 is 32584, so it reaches beyond the part three times.
        LikelyBits x = Steps.reading(254, 144, 0, 0);
        reads(x, "46- 46- 46-");
        size(x, 39914);
        came(x, 3);
    }

    /** "and none has come": what stands behind a 144 behind a 255 is never seen. */
    private static void noneComesBehind144() {
        LikelyBits zeros = Steps.reading(255, 144, 0, 0, 0, 0);
        LikelyBits nothing = Steps.reading(255);
        zeros.context(true, 3, 46, 0);
        nothing.context(true, 3, 46, 0);
        for (int i = 0; i < 6; i++) {
            Checks.due("bits behind a 144", zeros.bits(3, 64), nothing.bits(3, 64));
            came(zeros, 1);
        }
    }

    /** "if ROOM is 0, a byte comes in": it is 1 at the beginning, 8 with each byte that comes. */
    private static void byteInAtRoom0() {
        LikelyBits x = Steps.reading(0, 0, 0, 0, 0);
        came(x, 2);
        reads(x, "46+");
        came(x, 2);
        reads(x, "46-");
        came(x, 3);
        reads(x, "46- 46- 46- 46- 46- 46- 46-");
        came(x, 3);
        reads(x, "46-");
        came(x, 4);
    }

    /** "this one comes, .. ROOM is 7", at the beginning (so that it is 0 then) and later. */
    private static void roomBehind255() {
        LikelyBits first = Steps.reading(255, 128, 0, 0);
        came(first, 2);
        reads(first, "45+");
        came(first, 3);
        LikelyBits later = Steps.reading(0, 255, 0, 0, 0);
        reads(later, "46+ 46-");
        came(later, 3);
        reads(later, "46- 46- 46- 46- 46- 46-");
        came(later, 3);
        reads(later, "46+");
        came(later, 4);
    }

    /** "VALUE grows by 65,280, ROOM is 8": far behind the end, where nothing else comes in any more. */
    private static void farBehindTheEnd() {
        long[] behind156 = {0x0B2B086E0AA09EE0L, 0x6299A4E93EC6B63FL, 0x5E84DABBF7DC5FABL};
        far(behind156, 156);
        far(behind156, 156, 255, 144, 5);
        far(new long[] {0x0B2AF21205BE71E0L, 0xE88C2DFF771373DDL, 0xE8951C089AB0CE50L}, 156, 255, 143, 5);
        long[] behindNone = {0xFA030BDF1E2658DBL, 0x7DE0C4D4097101A9L, 0xA7B3A1A1D76BA278L};
        far(behindNone);
        far(behindNone, 255, 144, 0);
    }

    private static void far(long[] bits, int... bytes) {
        LikelyBits x = Steps.reading(bytes);
        x.context(true, 0, 46, 0);
        for (long due : bits) {
            Checks.due("64 bits in state 46", x.bits(0, 64), due);
        }
    }

    /** "If VALUE / 2^16 is below p". */
    private static void valueAtThePart() {
        reads(Steps.reading(172, 1, 0), "46+");
        reads(Steps.reading(172, 2, 0), "46-");
        LikelyBits below = Steps.reading(0, 1, 0);
        reads(below, "45-");
        size(below, 32768);
        LikelyBits at = Steps.reading(0, 2, 0);
        reads(at, "45+");
        size(at, 65534);
    }

    /** "it is the likely bit if SIZE is below p, else the other one", and the other way if VALUE isn't. */
    private static void sizeAtThePart() {
        // Behind 46+ SIZE is 44034: p less leaves just p; behind 45+ it leaves 1 less.
        reads(Steps.reading(0, 4, 0), "46+ 46-");
        reads(Steps.reading(0, 4, 0), "46+ 45+ 46+");
        reads(Steps.reading(156, 64, 0), "46+ 46+");
        LikelyBits below = Steps.reading(156, 64, 0);
        reads(below, "46+ 45+ 46-");
        size(below, 44032);
    }

    /** "if SIZE is 32,768 or more the bit is the likely one, and that is all". */
    private static void likelyBitThatIsAll() {
        LikelyBits at = Steps.reading(127);
        reads(at, "46+ 22+ 33+ 35+ 41+ 42+ 44+");
        size(at, 32768);
        Checks.due("SIZE at 32,768: the state stays", at.state(true, 0), 2 * 44);
        LikelyBits below = Steps.reading(127);
        reads(below, "46+ 22+ 33+ 35+ 41+ 42+ 45+ 44+");
        size(below, 65534);
        Checks.due("SIZE at 32,767: the next state", below.state(true, 0), 2 * 45);
    }

    /** "over and over, until SIZE is 32,768 or more": 16,384 is doubled once, 16,383 twice. */
    private static void doubledUntil32768() {
        LikelyBits at = Steps.reading(127);
        reads(at, "46+ 22+ 8-");
        size(at, 32768);
        LikelyBits below = Steps.reading(127);
        reads(below, "46+ 22+ 45+ 8-");
        size(below, 65532);
        LikelyBits just = Steps.reading(0, 0, 0, 0);
        reads(just, "45-");
        size(just, 32768);
        came(just, 4);
        LikelyBits once = Steps.reading(1, 0, 0, 0);
        reads(once, "45+");
        size(once, 65534);
        came(once, 2);
    }

    /** "VALUE (which goes round at 2^32)". */
    private static void valueGoesRoundAt2To32() {
        // VALUE is 2^31, 2^16 less in the first step, then doubled: 2^32 - 2^17.
        LikelyBits below = Steps.reading(255, 128, 0, 0);
        reads(below, "45+ 46+");
        size(below, 43517);
        // VALUE is 2^16 more at first: just 2^32, which is 0.
        LikelyBits at = Steps.reading(255, 129, 0, 0);
        reads(at, "45+ 46- 45-");
        size(at, 32768);
        // As a number with a sign VALUE would be below every part from 2^31 on.
        reads(Steps.reading(255, 127, 0, 0), "46-");
        reads(Steps.reading(255, 128, 0, 0), "46-");
    }

    /** "behind them it finds bytes 255 without end". */
    private static void bytes255BehindTheEnd() {
        int[][] rows = {{0}, {0x9C}, {254}, {255}, {0x12, 0x34}, {0x12, 255}, {255, 143}, {255, 128, 7}};
        for (int[] row : rows) {
            LikelyBits x = Steps.reading(row);
            LikelyBits longer = new LikelyBits();
            Checks.putAll(longer, row);
            Checks.putAll(longer, 255, 255);
            longer.read(false, 0, row.length + 2);
            for (int i = 0; i < 10; i++) {
                x.context(true, 1, 46, 0);
                longer.context(true, 1, 46, 0);
                Checks.due("bits behind the end", x.bits(1, 64), longer.bits(1, 64));
                Checks.due("SIZE behind the end", x.register(4), longer.register(4));
                Checks.due("bytes behind the end aren't counted", x.register(3) <= row.length ? 1 : 0, 1);
            }
            came(x, row.length);
        }
    }

    /** "The reader reads so many bytes": those of the row that stand behind them are not of them. */
    private static void noByteBehindTheEnd() {
        LikelyBits x = new LikelyBits();
        Checks.putAll(x, 0x6B, 0x29, 0, 0, 0, 0);
        LikelyBits alone = Steps.reading(0x6B, 0x29);
        x.read(false, 0, 2);
        x.context(true, 1, 46, 0);
        alone.context(true, 1, 46, 0);
        Checks.due("bits of two bytes of six", x.bits(1, 64), alone.bits(1, 64));
        came(x, 2);
        x.read(false, 0, 3);
        x.context(true, 1, 46, 0);
        Checks.due("bits of three bytes are others", x.bits(1, 64) == readAgain(alone) ? 1 : 0, 0);
        came(x, 3);
    }

    private static long readAgain(LikelyBits x) {
        x.read(false, 0, x.at(-1));
        x.context(true, 1, 46, 0);
        return x.bits(1, 64);
    }

    /** None of the bytes: b0 is a 255 already, at the beginning, in the midst, and at the end of the row. */
    private static void noneOfTheBytes() {
        LikelyBits like = Steps.reading(255, 255);
        long due = readAgain(like);
        LikelyBits x = new LikelyBits();
        Checks.putAll(x, 1, 2, 3);
        for (int place = 0; place <= 3; place++) {
            x.read(false, place, 0);
            came(x, 0);
            size(x, 32768);
            x.context(true, 1, 46, 0);
            Checks.due("bits of none of the bytes at " + place, x.bits(1, 64), due);
            came(x, 0);
        }
        LikelyBits empty = Steps.reading();
        came(empty, 0);
        Checks.due("bits of no bytes", readAgain(empty), due);
    }

    /** "from a place on": a 255 before the place makes nothing of the first byte. */
    private static void noByteBeforeThePlace() {
        for (int before : new int[] {255, 0}) {
            LikelyBits x = new LikelyBits();
            Checks.putAll(x, before, 172, 2, 0);
            x.read(false, 1, 3);
            came(x, 2);
            reads(x, "46-");
            size(x, 43004);
        }
    }

    /** "The context changes as in writing that bit": to next or other, with a turn in 0, 6 and 14 alone. */
    private static void contextsChangeAsInWriting() {
        for (int state = 0; state < 47; state++) {
            for (int likely = 0; likely < 2; likely++) {
                for (int bit = 0; bit < 2; bit++) {
                    LikelyBits x = new LikelyBits();
                    x.context(false, 18, state, likely);
                    x.context(true, 18, state, likely);
                    x.open(false);
                    x.write(18, bit, 1);
                    x.read(false, 0, x.close(0));
                    Checks.due("bit read in state " + state, x.bits(18, 1), bit);
                    Checks.due("context behind state " + state, x.state(true, 18), x.state(false, 18));
                }
            }
        }
    }
}
