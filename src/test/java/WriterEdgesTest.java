/**
 * Each sentence about coded writing that names an edge, on both sides of it. The numbers were worked out
 * from the document apart from the class. "The byte is mod 256" has no test: no run makes it matter, as
 * LOW is below 2^27 behind a carry, and behind a 255 no byte is above 143.
 */
public final class WriterEdgesTest {
    /** LOW is 2^19 with ROOM 8 behind it, so just 2^27 at the next byte; the last byte is 10. */
    private static final String TO_2_27 = "43+ 30+ 46- 39- 46- 3+ 4+ 42+ 44+";
    private static final String TO_1_BELOW = "43+ 30+ 46- 39- 46- 3+ 4+ 42+ 45+ 45+ 45+ 45+";
    /** The same with a last byte of 254, and with one of 255. */
    private static final String TO_2_27_BEHIND_254 = "46- 46- 46- 46- 8- 46- 46- 8+ 25+ 8+ 7+ 41+ 43+";
    private static final String TO_1_BELOW_BEHIND_254 =
        "46- 46- 46- 46- 8- 46- 46- 8+ 25+ 8+ 7+ 41+ 44+ 45+ 45+ 45+";
    private static final String TO_2_27_BEHIND_255 =
        "43- 46- 10- 25+ 30- 30+ 46- 10+ 25+ 25- 25- 21+ 4+ 42+ 43+";
    private static final String TO_1_BELOW_BEHIND_255 =
        "43- 46- 10- 25+ 30- 30+ 46- 10+ 25+ 25- 25- 21+ 4+ 42+ 44+ 45+ 45+ 45+";
    /** A 255 is out while LOW + SIZE is as far above as it can be; then always the upper part. */
    private static final String TO_143_BEHIND_255 =
        "43+ 30+ 40- 46- 20- 46- 46+ 9+ 46- 25+ 46- 46+ 46- 46- 46- 46+ 46+ 46+ 46-";
    /** Always the upper part: the first byte is 255. */
    private static final String TO_ROOM_5_BEHIND_255 = "46- 46- 46- 46- 46- 46+ 46- 46+ 46+ 46+ 46+ 46+ 46+";
    /** LOW + SIZE is 2^23, ROOM 4, SIZE 32,768: all that is left is one byte of 255. */
    private static final String TO_255_ALONE = "46- 46- 46- 46- 46- 46+ 20+ 23+ 40+ 41+ 42+";
    private static final String TO_254_ALONE = "46- 46- 46- 46- 46- 46+ 20+ 23+ 40+ 41+ 43+ 43+ 45+ 45+";

    private WriterEdgesTest() {
    }

    public static void main(String[] args) {
        beginning();
        likelyBitThatIsAll();
        sizeAtThePart();
        doubledUntil32768();
        byteOutAtRoom0();
        noLastByteAtFirst();
        carryAt2To27();
        carryThatMakes255();
        noCarryInto255();
        nothingAbove143();
        way0AtLowAndSize();
        way0TwoBytes();
        way1AtN();
        way1AtNBehind255();
        last255GoesInWay0();
        last255GoesInWay1();
        onlyByte255Goes();
        byteBeforeTheSegmentStays();
        onlyThreeStatesTurn();
        Checks.end();
    }

    /** "LOW is 0, SIZE 32,768, ROOM 12 at its beginning", of each segment anew. */
    private static void beginning() {
        LikelyBits x = new LikelyBits();
        x.open(false);
        Checks.due("the first segment", Steps.writer(x), "0 32768 12:");
        Steps.write(x, TO_2_27);
        x.close(1);
        x.open(false);
        Checks.due("the next segment", Steps.writer(x), "0 32768 12: 11 0");
        Steps.write(x, "46-");
        x.clear();
        x.open(false);
        Checks.due("a segment behind clear", Steps.writer(x), "0 32768 12:");
    }

    /** "if SIZE is 32,768 or more then, LOW grows by p, and that is all". */
    private static void likelyBitThatIsAll() {
        String near = "46+ 22+ 33+ 35+ 41+ 42+";
        Steps.leadTo(near, "11261 32773 11:");
        LikelyBits at = Steps.written(near + " 44+");
        Checks.due("SIZE at 32,768", Steps.writer(at), "11266 32768 11:");
        Checks.due("SIZE at 32,768: the state stays", at.state(false, 0), 2 * 44);
        LikelyBits below = Steps.written(near + " 45+ 44+");
        Checks.due("SIZE at 32,767", Steps.writer(below), 2 * 11267 + " 65534 10:");
        Checks.due("SIZE at 32,767: the next state", below.state(false, 0), 2 * 45);
    }

    /** "if SIZE is below p, SIZE becomes p, if not, LOW grows by p", and the other bit the other way. */
    private static void sizeAtThePart() {
        // Behind 46+ SIZE is 44034: p less leaves just p, 22017; behind 45+ it leaves 1 less.
        Steps.leadTo("46+ 46+", "44034 44034 10:");
        Steps.leadTo("46+ 46-", "0 44034 10:");
        Steps.leadTo("46+ 45+ 46+", "2 44034 10:");
        Steps.leadTo("46+ 45+ 46-", "44036 44032 10:");
    }

    /** "over and over, until SIZE is 32,768 or more": 16,384 is doubled once, 16,383 twice. */
    private static void doubledUntil32768() {
        Steps.leadTo("46+ 22+ 8-", 2 * (9217 + 18433) + " 32768 10:");
        Steps.leadTo("46+ 22+ 45+ 8-", 4 * (9217 + 1 + 18433) + " 65532 9:");
        Steps.leadTo("45+", "2 65534 11:");
        Steps.leadTo("45-", "0 32768 5: 0");
    }

    /** "ROOM is 1 less, and if it is 0, a byte is OUT". */
    private static void byteOutAtRoom0() {
        Steps.leadTo("42-", "0 43008 1:");
        Steps.leadTo("43-", "0 36864 8: 0");
        Steps.leadTo("42- 46+", "0 44034 8: 0");
    }

    /** "While it is open it has a LAST byte as soon as it has one": none before, whatever stands there. */
    private static void noLastByteAtFirst() {
        for (int before : new int[] {255, 254, 10}) {
            LikelyBits x = new LikelyBits();
            x.put(before);
            x.open(false);
            Steps.write(x, "46- 43-");
            Checks.due("the first byte behind " + before, Steps.writer(x), "16384 36864 6: " + before + " 172");
        }
        // As soon as the first byte is there it is the last one: a 255 makes the next byte shorter.
        Steps.leadTo(TO_ROOM_5_BEHIND_255, "4133502 60802 5: 255");
        Steps.leadTo(TO_ROOM_5_BEHIND_255 + " 39-", "1211904 34048 4: 255 126");
    }

    /** "and LOW is 2^27 or more, LOW is 2^27 less, and the last byte 1 more". */
    private static void carryAt2To27() {
        Steps.leadTo(TO_2_27, "524288 44032 8: 10");
        Steps.leadTo(TO_2_27 + " 39-", "0 34048 8: 11 0");
        Steps.leadTo(TO_1_BELOW, "524287 44033 8: 10");
        Steps.leadTo(TO_1_BELOW + " 39-", "524032 34048 8: 10 255");
        Steps.endAs(TO_2_27, 0, "11 15");
        Steps.endAs(TO_2_27, 1, "11 0");
        Steps.endAs(TO_1_BELOW + " 39-", 1, "10 255 127");
    }

    /** "Then, if there is a last byte of 255": also one that was 254 until its carry. */
    private static void carryThatMakes255() {
        Steps.leadTo(TO_2_27_BEHIND_254, "524288 63440 8: 254");
        Steps.leadTo(TO_2_27_BEHIND_254 + " 39-", "0 34048 7: 255 0");
        Steps.leadTo(TO_1_BELOW_BEHIND_254 + " 39-", "524032 34048 8: 254 255");
    }

    /** "if there is a last byte, it isn't 255": a 255 takes no carry, the byte behind it has it. */
    private static void noCarryInto255() {
        Steps.leadTo(TO_2_27_BEHIND_255, "524288 37576 8: 0 10 255");
        Steps.leadTo(TO_2_27_BEHIND_255 + " 39-", "0 34048 7: 0 10 255 128");
        Steps.leadTo(TO_1_BELOW_BEHIND_255 + " 39-", "1048320 34048 7: 0 10 255 127");
    }

    /** "no byte behind a 255 is above 143": 143 itself is made, by the uppermost of all bits. */
    private static void nothingAbove143() {
        Steps.leadTo(TO_143_BEHIND_255, "228064 48416 7: 10 255 143");
        LikelyBits x = Steps.written(TO_143_BEHIND_255);
        // The upper part again and again: a carry would make the 143 a 144.
        for (int i = 0; i < 40; i++) {
            boolean upperIsLikely = x.register(1) - 22017 >= 22017;
            Steps.write(x, upperIsLikely ? "46+" : "46-");
        }
        x.close(0);
        Checks.due("the byte behind the 255", x.at(2), 143);
        for (int k = 1; k < x.at(-1); k++) {
            Checks.due("byte " + k + " is above 143 behind a 255", x.at(k - 1) == 255 && x.at(k) > 143 ? 1 : 0, 0);
        }
    }

    /**
     * "less 32,768 if m is not below the old LOW + SIZE". LOW + SIZE is even whenever a bit was written and
     * m is odd, so the nearest that can be are m 1 below it and m 1 above it.
     */
    private static void way0AtLowAndSize() {
        Steps.leadTo("46-", "88068 43004 10:");
        Steps.endAs("46-", 0, "255 127");
        String above = "13+ 8+ 12- 41+ 31+ 14-";
        Steps.leadTo(above, "480252 44034 7:");
        Steps.endAs(above, 0, "119");
        // LOW's lowest sixteen bits are set already: m is LOW itself.
        Steps.endAs(TO_1_BELOW, 0, "10 255 127");
    }

    /** "then twice: LOW is multiplied by 2^ROOM, a byte is out", even where nothing was written. */
    private static void way0TwoBytes() {
        LikelyBits x = new LikelyBits();
        x.open(false);
        Checks.due("close(0) of nothing", x.close(0), 2);
        Checks.due("close(0) of nothing: bytes", Checks.bytes(x), "255 127");
        Steps.endAs("42-", 0, "0 31");
        Steps.endAs("43-", 0, "0 15");
        Steps.endAs("46+ 30- 30- 30- 30-", 0, "0 0 127");
        Steps.endAs(TO_ROOM_5_BEHIND_255 + " 46-", 0, "255 126 127");
    }

    /** "n is 12 - ROOM; as long as n is above 0", "n is ROOM less (the new one)". */
    private static void way1AtN() {
        LikelyBits none = new LikelyBits();
        none.open(false);
        Checks.due("close(1), ROOM 12, n 0", none.close(1), 0);
        Checks.due("close(1), ROOM 12: how many bytes", none.at(-1), 0);
        Steps.leadTo("46+", "0 44034 11:");
        Steps.endAs("46+", 1, "0");
        // One byte makes ROOM 8: n of 8 is 0 then, n of 9 is 1.
        Steps.leadTo("39-", "0 34048 4:");
        Steps.endAs("39-", 1, "0");
        Steps.leadTo("46+ 39-", "0 34048 3:");
        Steps.endAs("46+ 39-", 1, "0 0");
        Steps.endAs("30- 30- 30- 30-", 1, "0 0");
        Steps.endAs("46+ 30- 30- 30- 30-", 1, "0 0 0");
        // ROOM 1, the least there is: n is 11.
        Steps.endAs("42-", 1, "0 0");
        // ROOM 8, just behind a byte: n is 4, and one byte is out.
        Steps.endAs("43-", 1, "0 0");
    }

    /** The same where a byte behind a 255 makes ROOM 7: n of 7 is 0 then, n of 8 is 1. */
    private static void way1AtNBehind255() {
        Steps.leadTo(TO_ROOM_5_BEHIND_255, "4133502 60802 5: 255");
        Steps.endAs(TO_ROOM_5_BEHIND_255, 1, "255 126");
        Steps.leadTo(TO_ROOM_5_BEHIND_255 + " 46-", "8267004 44034 4: 255");
        Steps.endAs(TO_ROOM_5_BEHIND_255 + " 46-", 1, "255 126 36");
    }

    /** "In each case a last byte of 255 is taken away at the end": the case of way 0. */
    private static void last255GoesInWay0() {
        Steps.endAs("46+", 0, "127");
        Steps.endAs("45- 43+ 30+ 30- 30+ 43-", 0, "0 0 22 254");
    }

    private static void last255GoesInWay1() {
        String to255 = "45+ 30+ 39- 20+ 46+ 20+";
        Steps.leadTo(to255, "522250 63490 8: 10");
        Steps.endAs(to255, 1, "10");
        Steps.endAs("43+ 30+ 46- 39- 46-", 1, "10 254");
        // A 255 that isn't last stays.
        Steps.endAs(TO_ROOM_5_BEHIND_255, 1, "255 126");
    }

    /** A segment whose only byte is 255 has none at its end. */
    private static void onlyByte255Goes() {
        Steps.leadTo(TO_255_ALONE, "8355840 32768 4:");
        Steps.endAs(TO_255_ALONE, 1, "");
        Steps.leadTo(TO_254_ALONE, "8355839 32769 4:");
        Steps.endAs(TO_254_ALONE, 1, "254");
    }

    /** It is the segment's last byte that goes: a 255 before a segment without bytes is none of it. */
    private static void byteBeforeTheSegmentStays() {
        LikelyBits x = new LikelyBits();
        x.put(255);
        x.open(false);
        Checks.due("close(1) of nothing behind a 255", x.close(1), 0);
        Checks.due("close(1) of nothing behind a 255: bytes", Checks.bytes(x), "255");
        x.open(false);
        Steps.write(x, TO_255_ALONE);
        Checks.due("close(1) of a 255 behind a 255", x.close(1), 0);
        Checks.due("close(1) of a 255 behind a 255: bytes", Checks.bytes(x), "255");
    }

    /** "three of them TURN (0, 6 and 14)", and none beside them. */
    private static void onlyThreeStatesTurn() {
        for (int state = 0; state < 47; state++) {
            for (int likely = 0; likely < 2; likely++) {
                LikelyBits x = new LikelyBits();
                x.context(false, 0, state, likely);
                x.open(false);
                x.write(0, 1 - likely, 1);
                boolean turns = state == 0 || state == 6 || state == 14;
                int want = turns ? 1 - likely : likely;
                Checks.due("likely bit behind the other one in state " + state, x.state(false, 0) & 1, want);
            }
        }
    }
}
