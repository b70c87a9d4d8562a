/**
 * Each argument of each promise on both sides of each of its edges, and far away from them: a call with it
 * is answered, or refused with the promise's exception, and then nothing has changed.
 */
public final class PromiseEdgesTest {
    private static final String ARGUMENT = "IllegalArgumentException";
    private static final String STATE = "IllegalStateException";
    private static final String BOUNDS = "IndexOutOfBoundsException";
    /** Numbers whose lowest bits alone would be of every range. */
    private static final int[] FAR = {
        Integer.MIN_VALUE, Integer.MIN_VALUE + 1, -65536, -65535, -256, -255, 65536, 65537, 1 << 24,
        Integer.MAX_VALUE - 1, Integer.MAX_VALUE,
    };

    private PromiseEdgesTest() {
    }

    public static void main(String[] args) {
        newObjectHasNothing();
        clearTakesWhatIsOpenOrRead();
        clearLeavesContexts();
        putOf0To255();
        putWhileASegmentIsOpen();
        atOfEachByte();
        atOfNone();
        contextOfEachKind();
        stateOfEachContext();
        openWhileOneIsOpen();
        openEndsReading();
        writeInEachContext();
        writeOfEachWidth();
        writeWithNoneOpen();
        enoughInEachCondition();
        closeInEachWay();
        closeWithNoneOpen();
        readOfEachPlace();
        readWhileASegmentIsOpen();
        bitsInEachContext();
        bitsOfEachWidth();
        bitsWithNothingRead();
        registerOfEachNumber();
        registerOfARawSegment();
        the512thCall();
        Checks.end();
    }

    /** All numbers from one to another, and those far away. */
    private static int[] around(int from, int to) {
        int[] all = new int[to - from + 1 + FAR.length];
        for (int i = from; i <= to; i++) {
            all[i - from] = i;
        }
        System.arraycopy(FAR, 0, all, to - from + 1, FAR.length);
        return all;
    }

    private static void silentlyRefused(String call, String exception, LikelyBits x, Runnable silent) {
        Checks.refused(call, exception, x, () -> {
            silent.run();
            return 0;
        });
    }

    /** Promise 1. */
    private static void newObjectHasNothing() {
        LikelyBits x = new LikelyBits();
        Checks.due("new: how many bytes", x.at(-1), 0);
        Checks.refused("new: at(0)", BOUNDS, x, () -> x.at(0));
        Checks.refused("new: close(0)", STATE, x, () -> x.close(0));
        Checks.refused("new: bits(0, 1)", STATE, x, () -> x.bits(0, 1));
        Checks.refused("new: bits(-1, 1)", STATE, x, () -> x.bits(-1, 1));
        for (int k = 0; k <= 18; k++) {
            Checks.due("new: state(false, " + k + ")", x.state(false, k), 0);
            Checks.due("new: state(true, " + k + ")", x.state(true, k), 0);
        }
        Checks.due("new: put", x.put(0), 1);
    }

    /** Promise 2, in each of the five conditions. */
    private static void clearTakesWhatIsOpenOrRead() {
        for (int condition = 0; condition < Condition.COUNT; condition++) {
            LikelyBits x = Condition.made(condition);
            x.clear();
            String label = "clear, " + Condition.name(condition);
            Checks.due(label + ": how many bytes", x.at(-1), 0);
            Checks.refused(label + ": at(0)", BOUNDS, x, () -> x.at(0));
            Checks.refused(label + ": write", STATE, x, () -> x.write(0, 0, 1));
            Checks.refused(label + ": raw write", STATE, x, () -> x.write(-1, 0, 1));
            Checks.refused(label + ": enough", STATE, x, x::enough);
            Checks.refused(label + ": close", STATE, x, () -> x.close(0));
            Checks.refused(label + ": bits", STATE, x, () -> x.bits(0, 1));
            Checks.refused(label + ": raw bits", STATE, x, () -> x.bits(-1, 1));
            silentlyRefused(label + ": read(true, 0, 1)", ARGUMENT, x, () -> x.read(true, 0, 1));
            for (int w = 0; w < 5; w++) {
                Checks.due(label + ": register(" + w + ")", x.register(w), -1);
            }
            x.clear();
            Checks.due(label + ": how many bytes, cleared again", x.at(-1), 0);
            Checks.due(label + ": put", x.put(7), 1);
            Checks.due(label + ": at(0)", x.at(0), 7);
            x.open(true);
            Checks.due(label + ": a raw segment", x.write(-1, 1, 1), 1);
            Checks.due(label + ": its byte", x.at(1), 128);
        }
    }

    private static void clearLeavesContexts() {
        for (int condition = 0; condition < Condition.COUNT; condition++) {
            LikelyBits x = Condition.made(condition);
            int[] writer = new int[19];
            int[] reader = new int[19];
            for (int k = 0; k < 19; k++) {
                x.context(false, k, 2 * k + 3, k & 1);
                x.context(true, k, 46 - k, 1 - (k & 1));
                writer[k] = x.state(false, k);
                reader[k] = x.state(true, k);
            }
            x.clear();
            for (int k = 0; k < 19; k++) {
                Checks.due("clear: state(false, " + k + ")", x.state(false, k), writer[k]);
                Checks.due("clear: state(true, " + k + ")", x.state(true, k), reader[k]);
            }
        }
    }

    /** Promise 3: "IllegalArgumentException if it isn't 0 .. 255". */
    private static void putOf0To255() {
        LikelyBits x = new LikelyBits();
        int count = 0;
        for (int b : around(-3, 258)) {
            if (b >= 0 && b <= 255) {
                count++;
                Checks.due("put(" + b + ")", x.put(b), count);
                Checks.due("the byte put", x.at(count - 1), b);
            } else {
                Checks.refused("put(" + b + ")", ARGUMENT, x, () -> x.put(b));
            }
        }
        Checks.due("how many were put", x.at(-1), 256);
    }

    /** "IllegalStateException if a segment is open", of either kind, and of a byte 0 or 255. */
    private static void putWhileASegmentIsOpen() {
        for (boolean raw : new boolean[] {false, true}) {
            LikelyBits x = new LikelyBits();
            Checks.due("put before", x.put(1), 1);
            x.open(raw);
            Checks.refused("put(0), raw " + raw, STATE, x, () -> x.put(0));
            x.write(raw ? -1 : 0, 0, 5);
            Checks.refused("put(255), raw " + raw, STATE, x, () -> x.put(255));
            int length = x.close(1);
            Checks.due("put behind", x.put(2), 2 + length);
        }
    }

    /** Promise 4: "Byte k; how many there are if k is -1. IndexOutOfBoundsException for others". */
    private static void atOfEachByte() {
        LikelyBits x = new LikelyBits();
        for (int count = 0; count < 4; count++) {
            for (int k : around(-3, count + 2)) {
                if (k == -1) {
                    Checks.due("at(-1)", x.at(k), count);
                } else if (k >= 0 && k < count) {
                    Checks.due("at(" + k + ")", x.at(k), 200 + k);
                } else {
                    Checks.refused("at(" + k + ") of " + count, BOUNDS, x, () -> x.at(k));
                }
            }
            x.put(200 + count);
        }
    }

    /** A byte that an open segment hasn't made yet isn't there, nor one that its end took away. */
    private static void atOfNone() {
        LikelyBits x = new LikelyBits();
        x.open(true);
        Checks.refused("at(0) of an empty segment", BOUNDS, x, () -> x.at(0));
        x.write(-1, 255, 8);
        Checks.due("at(0) of its first byte", x.at(0), 255);
        Checks.refused("at(1) behind it", BOUNDS, x, () -> x.at(1));
        x.close(0);
        Checks.refused("at(0), taken away", BOUNDS, x, () -> x.at(0));
        x.open(false);
        Steps.write(x, "42-");
        Checks.refused("at(0) at ROOM 1", BOUNDS, x, () -> x.at(0));
        Steps.write(x, "46+");
        Checks.due("at(0) behind ROOM 0", x.at(0), 0);
    }

    /** Promise 5: "IllegalArgumentException if there is no such context, state or bit". */
    private static void contextOfEachKind() {
        for (boolean reader : new boolean[] {false, true}) {
            LikelyBits x = new LikelyBits();
            for (int k : around(-3, 21)) {
                contextIsSet(x, reader, k, 46, 1);
                contextIsSet(x, reader, k, 0, 0);
            }
            for (int state : around(-3, 49)) {
                contextIsSet(x, reader, 0, state, 0);
                contextIsSet(x, reader, 18, state, 1);
            }
            for (int likely : around(-3, 4)) {
                contextIsSet(x, reader, 18, 46, likely);
                contextIsSet(x, reader, 0, 0, likely);
            }
        }
    }

    private static void contextIsSet(LikelyBits x, boolean reader, int k, int state, int likely) {
        String call = "context(" + reader + ", " + k + ", " + state + ", " + likely + ")";
        if (k < 0 || k > 18 || state < 0 || state > 46 || likely < 0 || likely > 1) {
            silentlyRefused(call, ARGUMENT, x, () -> x.context(reader, k, state, likely));
            return;
        }
        int[] before = new int[19];
        int[] beside = new int[19];
        for (int i = 0; i < 19; i++) {
            before[i] = x.state(reader, i);
            beside[i] = x.state(!reader, i);
        }
        x.context(reader, k, state, likely);
        for (int i = 0; i < 19; i++) {
            Checks.due(call + ", context " + i, x.state(reader, i), i == k ? 2 * state + likely : before[i]);
            Checks.due(call + ", the other's context " + i, x.state(!reader, i), beside[i]);
        }
    }

    /** Promise 6: "IllegalArgumentException if there is no such context". */
    private static void stateOfEachContext() {
        for (boolean reader : new boolean[] {false, true}) {
            LikelyBits x = new LikelyBits();
            for (int k = 0; k <= 18; k++) {
                x.context(reader, k, 46 - k, 1);
                x.context(!reader, k, k, 0);
            }
            for (int k : around(-3, 21)) {
                if (k >= 0 && k <= 18) {
                    Checks.due("state(" + reader + ", " + k + ")", x.state(reader, k), 2 * (46 - k) + 1);
                } else {
                    Checks.refused("state(" + reader + ", " + k + ")", ARGUMENT, x, () -> x.state(reader, k));
                }
            }
        }
    }

    /** Promise 7: "IllegalStateException if one is open". */
    private static void openWhileOneIsOpen() {
        for (boolean first : new boolean[] {false, true}) {
            for (boolean second : new boolean[] {false, true}) {
                LikelyBits x = new LikelyBits();
                x.open(first);
                silentlyRefused("open(" + second + ") at once", STATE, x, () -> x.open(second));
                x.write(first ? -1 : 2, 0x2D, 7);
                silentlyRefused("open(" + second + ") behind bits", STATE, x, () -> x.open(second));
                x.close(0);
                x.open(second);
                Checks.due("open(" + second + ") behind close", x.enough(), second ? 0 : 5);
            }
        }
    }

    /** "what is read is read no more", not even when the segment is closed. */
    private static void openEndsReading() {
        for (boolean reads : new boolean[] {false, true}) {
            for (boolean writes : new boolean[] {false, true}) {
                LikelyBits x = new LikelyBits();
                x.put(77);
                x.read(reads, 0, 1);
                x.bits(reads ? -1 : 0, 3);
                x.open(writes);
                for (int again = 0; again < 2; again++) {
                    Checks.refused("bits behind open", STATE, x, () -> x.bits(reads ? -1 : 0, 1));
                    Checks.due("register(3) behind open", x.register(3), -1);
                    Checks.due("register(4) behind open", x.register(4), -1);
                    if (again == 0) {
                        x.close(1);
                    }
                }
            }
        }
    }

    /** Promise 8: "IllegalArgumentException if the context isn't so". */
    private static void writeInEachContext() {
        for (boolean raw : new boolean[] {false, true}) {
            LikelyBits x = new LikelyBits();
            x.open(raw);
            for (int k : around(-3, 21)) {
                boolean fits = raw ? k == -1 : k >= 0 && k <= 18;
                if (fits) {
                    x.write(k, 0, 1);
                    Checks.due("write(" + k + ", 0, 1): its context", raw ? 2 : x.state(false, k), 2);
                } else {
                    Checks.refused("write(" + k + ", 0, 1), raw " + raw, ARGUMENT, x, () -> x.write(k, 0, 1));
                }
            }
        }
    }

    /** "or n is not 1 .. 64", and "the n lowest bits of a number, the highest of them first". */
    private static void writeOfEachWidth() {
        long number = 0x8A51_37C4_0F29_6ED3L;
        for (boolean raw : new boolean[] {false, true}) {
            int context = raw ? -1 : 5;
            LikelyBits x = new LikelyBits();
            LikelyBits single = new LikelyBits();
            x.open(raw);
            single.open(raw);
            for (int n : around(-2, 66)) {
                if (n >= 1 && n <= 64) {
                    int due = 0;
                    for (int i = n - 1; i >= 0; i--) {
                        due = single.write(context, number >>> i & 1, 1);
                    }
                    Checks.due("write(.., " + n + ")", x.write(context, number, n), due);
                    Checks.due("write(.., " + n + "), what is seen", Checks.seen(x), Checks.seen(single));
                } else {
                    Checks.refused("write(.., " + n + ")", ARGUMENT, x, () -> x.write(context, number, n));
                }
            }
        }
    }

    /** "IllegalStateException if no segment is open": not yet, no more, cleared, and while bytes are read. */
    private static void writeWithNoneOpen() {
        LikelyBits x = new LikelyBits();
        writeIsRefused("none open yet", x);
        for (boolean raw : new boolean[] {false, true}) {
            x.open(raw);
            x.write(raw ? -1 : 0, 1, 1);
            x.close(0);
            writeIsRefused("closed", x);
            x.read(raw, 0, x.at(-1));
            writeIsRefused("bytes are read", x);
            x.open(raw);
            x.clear();
            writeIsRefused("cleared", x);
        }
    }

    private static void writeIsRefused(String condition, LikelyBits x) {
        for (int k = -1; k <= 18; k++) {
            int context = k;
            Checks.refused("write(" + k + ", 1, 1), " + condition, STATE, x, () -> x.write(context, 1, 1));
        }
    }

    /** Promise 9: "coded 5 more than it has, raw as many as it has. IllegalStateException if none is open". */
    private static void enoughInEachCondition() {
        LikelyBits x = new LikelyBits();
        Checks.refused("enough(), none open", STATE, x, x::enough);
        x.put(9);
        x.open(false);
        Checks.due("enough(), coded, nothing written", x.enough(), 5);
        Steps.write(x, "42-");
        Checks.due("enough(), coded, no byte yet", x.enough(), 5);
        Steps.write(x, "46+");
        Checks.due("enough(), coded, one byte", x.enough(), 6);
        x.close(0);
        Checks.refused("enough(), closed", STATE, x, x::enough);
        x.open(true);
        Checks.due("enough(), raw, nothing written", x.enough(), 0);
        x.write(-1, 1, 1);
        Checks.due("enough(), raw, a byte begun", x.enough(), 1);
        x.write(-1, 1, 7);
        Checks.due("enough(), raw, a byte full", x.enough(), 1);
        x.write(-1, 1, 1);
        Checks.due("enough(), raw, another begun", x.enough(), 2);
        x.close(0);
        x.read(true, 0, 1);
        Checks.refused("enough(), bytes are read", STATE, x, x::enough);
    }

    /** Promise 10: "in way 0 or 1 (raw: the same in both)", "IllegalArgumentException for another way". */
    private static void closeInEachWay() {
        for (boolean raw : new boolean[] {false, true}) {
            for (int way : around(-3, 4)) {
                LikelyBits x = new LikelyBits();
                x.put(3);
                x.open(raw);
                x.write(raw ? -1 : 0, 0, 1);
                if (way != 0 && way != 1) {
                    Checks.refused("close(" + way + "), raw " + raw, ARGUMENT, x, () -> x.close(way));
                    continue;
                }
                Checks.due("close(" + way + "), raw " + raw, x.close(way), 1);
                String due = raw ? "3 42" : way == 0 ? "3 127" : "3 0";
                Checks.due("close(" + way + "), raw " + raw + ": bytes", Checks.bytes(x), due);
                Checks.refused("close(" + way + ") again", STATE, x, () -> x.close(way));
            }
        }
    }

    private static void closeWithNoneOpen() {
        LikelyBits x = new LikelyBits();
        for (int way : new int[] {0, 1, 2, -1}) {
            Checks.refused("close(" + way + "), none open yet", STATE, x, () -> x.close(way));
        }
        for (boolean raw : new boolean[] {false, true}) {
            x.open(raw);
            x.close(0);
            Checks.refused("close(0), closed", STATE, x, () -> x.close(0));
            Checks.refused("close(1), closed", STATE, x, () -> x.close(1));
            x.read(raw, 0, 0);
            Checks.refused("close(0), bytes are read", STATE, x, () -> x.close(0));
        }
    }

    /** Promise 11: "n is 0 .., place 0 .. how many there are", and no byte behind them. */
    private static void readOfEachPlace() {
        LikelyBits x = new LikelyBits();
        for (int count = 0; count < 4; count++) {
            for (int place : around(-2, count + 2)) {
                for (int n : around(-2, count + 2)) {
                    readOf(x, count, place, n);
                }
            }
            x.put(0x10 + count);
        }
    }

    private static void readOf(LikelyBits x, int count, int place, int n) {
        boolean there = place >= 0 && n >= 0 && (long) place + n <= count;
        for (boolean raw : new boolean[] {false, true}) {
            String call = "read(" + raw + ", " + place + ", " + n + ") of " + count;
            if (!there) {
                silentlyRefused(call, ARGUMENT, x, () -> x.read(raw, place, n));
                continue;
            }
            x.read(raw, place, n);
            Checks.due(call + ": register(3)", x.register(3), raw ? 0 : Math.min(n, 2));
            Checks.due(call + ": register(4)", x.register(4), raw ? -1 : 32768);
            if (raw) {
                Checks.due(call + ": bits", x.bits(-1, 8), n == 0 ? 255 : 0x10 + place);
            }
        }
    }

    private static void readWhileASegmentIsOpen() {
        for (boolean raw : new boolean[] {false, true}) {
            LikelyBits x = new LikelyBits();
            x.put(5);
            x.open(raw);
            silentlyRefused("read(true, 0, 1), a segment open", STATE, x, () -> x.read(true, 0, 1));
            silentlyRefused("read(false, 0, 0), a segment open", STATE, x, () -> x.read(false, 0, 0));
            x.write(raw ? -1 : 0, 1, 4);
            silentlyRefused("read(false, 0, 1), bits written", STATE, x, () -> x.read(false, 0, 1));
            x.close(0);
            x.read(true, 0, 1);
            Checks.due("read behind close", x.bits(-1, 8), 5);
        }
    }

    /** Promise 12: "IllegalArgumentException if the context isn't so". */
    private static void bitsInEachContext() {
        for (boolean raw : new boolean[] {false, true}) {
            LikelyBits x = new LikelyBits();
            Checks.putAll(x, 0, 0, 0, 0);
            x.read(raw, 0, 4);
            for (int k : around(-3, 21)) {
                boolean fits = raw ? k == -1 : k >= 0 && k <= 18;
                if (fits) {
                    x.bits(k, 1);
                    Checks.due("bits(" + k + ", 1): its context", raw || x.state(true, k) > 0 ? 1 : 0, 1);
                } else {
                    Checks.refused("bits(" + k + ", 1), raw " + raw, ARGUMENT, x, () -> x.bits(k, 1));
                }
            }
        }
    }

    /** "or n is not 1 .. 64", and "as the n lowest bits of a number, the first one highest". */
    private static void bitsOfEachWidth() {
        for (boolean raw : new boolean[] {false, true}) {
            int context = raw ? -1 : 5;
            LikelyBits x = new LikelyBits();
            LikelyBits single = new LikelyBits();
            for (int i = 0; i < 300; i++) {
                x.put(i * 37 + 11 & 255);
                single.put(i * 37 + 11 & 255);
            }
            x.read(raw, 0, 300);
            single.read(raw, 0, 300);
            for (int n : around(-2, 66)) {
                if (n >= 1 && n <= 64) {
                    long due = 0;
                    for (int i = 0; i < n; i++) {
                        due = 2 * due + single.bits(context, 1);
                    }
                    Checks.due("bits(.., " + n + ")", x.bits(context, n), due);
                    Checks.due("bits(.., " + n + "), what is seen", Checks.seen(x), Checks.seen(single));
                } else {
                    Checks.refused("bits(.., " + n + ")", ARGUMENT, x, () -> x.bits(context, n));
                }
            }
        }
    }

    /** "IllegalStateException if nothing is read": not yet, no more, cleared. */
    private static void bitsWithNothingRead() {
        LikelyBits x = new LikelyBits();
        x.put(8);
        bitsIsRefused("nothing read yet", x);
        for (boolean raw : new boolean[] {false, true}) {
            x.read(raw, 0, 0);
            x.open(raw);
            bitsIsRefused("a segment open", x);
            x.close(0);
            bitsIsRefused("the segment closed", x);
            x.read(raw, 0, 0);
            x.clear();
            bitsIsRefused("cleared", x);
        }
    }

    private static void bitsIsRefused(String condition, LikelyBits x) {
        for (int k = -1; k <= 18; k++) {
            int context = k;
            Checks.refused("bits(" + k + ", 1), " + condition, STATE, x, () -> x.bits(context, 1));
        }
    }

    /** Promise 13: "-1 if there is nothing such, or no such w", in each of the five conditions. */
    private static void registerOfEachNumber() {
        int[][] answered = {{}, {0, 1, 2}, {2}, {3, 4}, {3}};
        for (int condition = 0; condition < Condition.COUNT; condition++) {
            LikelyBits x = Condition.made(condition);
            for (int w : around(-3, 8)) {
                boolean due = false;
                for (int such : answered[condition]) {
                    due |= such == w;
                }
                String label = "register(" + w + "), " + Condition.name(condition);
                Checks.due(label + ", is a number", x.register(w) >= 0 ? 1 : 0, due ? 1 : 0);
                Checks.due(label + ", is -1", x.register(w) == -1 ? 1 : 0, due ? 0 : 1);
            }
        }
    }

    /** "how many bits its last byte can still take, 0 if it is full or there is none". */
    private static void registerOfARawSegment() {
        LikelyBits x = new LikelyBits();
        x.put(1);
        x.open(true);
        Checks.due("register(2), no byte", x.register(2), 0);
        for (int bit = 1; bit <= 8; bit++) {
            x.write(-1, 1, 1);
            Checks.due("register(2) behind " + bit + " bits", x.register(2), 8 - bit);
        }
        // The byte is a 255, so the next one takes seven.
        for (int bit = 1; bit <= 7; bit++) {
            x.write(-1, 1, 1);
            Checks.due("register(2) behind a 255 and " + bit + " bits", x.register(2), 7 - bit);
        }
        x.write(-1, 1, 1);
        Checks.due("register(2) in a third byte", x.register(2), 7);
    }

    /** "An object is used for at most 512 calls": the 512th is still answered as promised. */
    private static void the512thCall() {
        LikelyBits x = new LikelyBits();
        for (int call = 1; call <= 512; call++) {
            Checks.due("put, call " + call, x.put(call & 255), call);
        }
        LikelyBits y = new LikelyBits();
        y.open(true);
        for (int call = 2; call <= 512; call++) {
            Checks.due("write, call " + call, y.write(-1, 0, 64), 8 * (call - 1));
        }
    }
}
