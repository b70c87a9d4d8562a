import java.util.Arrays;

/**
 * Writes bits that are likely to be what they were before in few bytes, by parts of an interval
 * whose sizes come of 47 states, and reads them again; bits that aren't worth it are written raw.
 */
public final class LikelyBits {
    private static final int MOST_BYTES = 65536;
    private static final int MOST_BYTES_TO_WRITE_BEHIND = 65000;
    private static final int MOST_BITS = 64;
    private static final int CONTEXT_COUNT = 19;
    private static final int STATE_COUNT = 47;
    private static final int NO_CONTEXT = -1;
    private static final int NOTHING = -1;
    private static final int ALL_ONES = 255;

    /** SIZE is never below this between two bits. */
    private static final int LEAST_SIZE = 32768;
    /** The smallest part, 1, is LEAST_SIZE after 15 doublings. */
    private static final int MOST_DOUBLINGS = 15;
    private static final int ROOM_AT_BEGINNING = 12;
    /** From here on LOW has more than its byte can hold. */
    private static final int CARRY = 1 << 27;
    /** No byte that the writer makes behind a 255 is above this. */
    private static final int MOST_BEHIND_ALL_ONES = 143;
    /** Coded bits may reach so many bytes further than those that are out. */
    private static final int BYTES_STILL_TO_COME = 5;

    private static final int[] PARTS = {
        22017, 13313, 6145, 2753, 1313, 545, 22017, 21505, 18433, 14337,
        12289, 9217, 7169, 5633, 22017, 21505, 20737, 18433, 14337, 13313,
        12289, 10241, 9217, 8705, 7169, 6145, 5633, 5121, 4609, 4353,
        2753, 2497, 2209, 1313, 1089, 673, 545, 321, 273, 133,
        73, 37, 21, 9, 5, 1, 22017,
    };
    private static final int[] NEXT_STATES = {
        1, 2, 3, 4, 5, 38, 7, 8, 9, 10,
        11, 12, 13, 29, 15, 16, 17, 18, 19, 20,
        21, 22, 23, 24, 25, 26, 27, 28, 29, 30,
        31, 32, 33, 34, 35, 36, 37, 38, 39, 40,
        41, 42, 43, 44, 45, 45, 46,
    };
    private static final int[] OTHER_STATES = {
        1, 6, 9, 12, 29, 33, 6, 14, 14, 14,
        17, 18, 20, 21, 14, 14, 15, 16, 17, 18,
        19, 19, 20, 21, 22, 23, 24, 25, 26, 27,
        28, 29, 30, 31, 32, 33, 34, 35, 36, 37,
        38, 39, 40, 41, 42, 43, 46,
    };

    private final Row row;
    private final Contexts writerContexts;
    private final Contexts readerContexts;
    private final Segment segment;
    private final CodedWriter codedWriter;
    private final RawWriter rawWriter;
    private final Source source;
    private final CodedReader codedReader;
    private final RawReader rawReader;
    private boolean segmentOpen;
    private boolean segmentRaw;
    private boolean sourceRead;
    private boolean sourceRaw;

    public LikelyBits() {
        row = new Row();
        writerContexts = new Contexts();
        readerContexts = new Contexts();
        segment = new Segment(row);
        codedWriter = new CodedWriter(segment, writerContexts);
        rawWriter = new RawWriter(segment);
        source = new Source(row);
        codedReader = new CodedReader(source, readerContexts);
        rawReader = new RawReader(source);
    }

    public void clear() {
        row.empty();
        segmentOpen = false;
        sourceRead = false;
    }

    public int put(int b)
            throws IllegalArgumentException, IllegalStateException, UnsupportedOperationException {
        if (b < 0 || b > ALL_ONES) {
            throw new IllegalArgumentException("a byte is 0 .. 255");
        }
        if (segmentOpen) {
            throw new IllegalStateException("a segment is open");
        }
        if (row.count() >= MOST_BYTES) {
            throw new UnsupportedOperationException("there are 65,536 bytes");
        }
        row.append(b);
        return row.count();
    }

    public int at(int k) throws IndexOutOfBoundsException {
        if (k == -1) {
            return row.count();
        }
        if (k < 0 || k >= row.count()) {
            throw new IndexOutOfBoundsException("there is no such byte");
        }
        return row.byteAt(k);
    }

    public void context(boolean reader, int k, int state, int likely) throws IllegalArgumentException {
        if (!isContext(k)) {
            throw new IllegalArgumentException("a context is 0 .. 18");
        }
        if (state < 0 || state >= STATE_COUNT) {
            throw new IllegalArgumentException("a state is 0 .. 46");
        }
        if (likely != 0 && likely != 1) {
            throw new IllegalArgumentException("a bit is 0 or 1");
        }
        contextsOf(reader).set(k, state, likely);
    }

    public int state(boolean reader, int k) throws IllegalArgumentException {
        if (!isContext(k)) {
            throw new IllegalArgumentException("a context is 0 .. 18");
        }
        Contexts contexts = contextsOf(reader);
        return 2 * contexts.stateOf(k) + contexts.likelyBitOf(k);
    }

    public void open(boolean raw) throws IllegalStateException {
        if (segmentOpen) {
            throw new IllegalStateException("a segment is open");
        }
        sourceRead = false;
        segmentOpen = true;
        segmentRaw = raw;
        segment.begin();
        if (raw) {
            rawWriter.begin();
        } else {
            codedWriter.begin();
        }
    }

    public int write(int context, long bits, int n)
            throws IllegalStateException, IllegalArgumentException, UnsupportedOperationException {
        if (!segmentOpen) {
            throw new IllegalStateException("no segment is open");
        }
        if (!fits(context, segmentRaw)) {
            throw new IllegalArgumentException("a context is 0 .. 18, or -1 for raw bits");
        }
        if (n < 1 || n > MOST_BITS) {
            throw new IllegalArgumentException("the bits are 1 .. 64");
        }
        if (row.count() > MOST_BYTES_TO_WRITE_BEHIND) {
            throw new UnsupportedOperationException("there are more than 65,000 bytes");
        }
        for (int i = n - 1; i >= 0; i--) {
            int bit = (int) (bits >>> i) & 1;
            if (segmentRaw) {
                rawWriter.add(bit);
            } else {
                codedWriter.add(context, bit);
            }
        }
        return segment.length();
    }

    public int enough() throws IllegalStateException {
        if (!segmentOpen) {
            throw new IllegalStateException("no segment is open");
        }
        return segmentRaw ? segment.length() : segment.length() + BYTES_STILL_TO_COME;
    }

    public int close(int way) throws IllegalStateException, IllegalArgumentException {
        if (!segmentOpen) {
            throw new IllegalStateException("no segment is open");
        }
        if (way != 0 && way != 1) {
            throw new IllegalArgumentException("a way is 0 or 1");
        }
        if (segmentRaw) {
            rawWriter.end();
        } else if (way == 0) {
            codedWriter.endInWay0();
        } else {
            codedWriter.endInWay1();
        }
        segment.dropLastIfAllOnes();
        segmentOpen = false;
        return segment.length();
    }

    public void read(boolean raw, int place, int n) throws IllegalStateException, IllegalArgumentException {
        if (segmentOpen) {
            throw new IllegalStateException("a segment is open");
        }
        if (place < 0 || place > row.count() || n < 0 || n > row.count() - place) {
            throw new IllegalArgumentException("there are no such bytes");
        }
        sourceRead = true;
        sourceRaw = raw;
        source.begin(place, n);
        if (raw) {
            rawReader.begin();
        } else {
            codedReader.begin();
        }
    }

    public long bits(int context, int n) throws IllegalStateException, IllegalArgumentException {
        if (!sourceRead) {
            throw new IllegalStateException("nothing is read");
        }
        if (!fits(context, sourceRaw)) {
            throw new IllegalArgumentException("a context is 0 .. 18, or -1 for raw bits");
        }
        if (n < 1 || n > MOST_BITS) {
            throw new IllegalArgumentException("the bits are 1 .. 64");
        }
        long found = 0;
        for (int i = 0; i < n; i++) {
            int bit = sourceRaw ? rawReader.nextBit() : codedReader.nextBit(context);
            found = found << 1 | bit;
        }
        return found;
    }

    public int register(int w) {
        switch (w) {
            case 0:
                return segmentOpen && !segmentRaw ? codedWriter.low : NOTHING;
            case 1:
                return segmentOpen && !segmentRaw ? codedWriter.size : NOTHING;
            case 2:
                return segmentOpen ? roomOfSegment() : NOTHING;
            case 3:
                return sourceRead ? source.came : NOTHING;
            case 4:
                return sourceRead && !sourceRaw ? codedReader.size : NOTHING;
            default:
                return NOTHING;
        }
    }

    private int roomOfSegment() {
        return segmentRaw ? rawWriter.room : codedWriter.room;
    }

    private Contexts contextsOf(boolean reader) {
        return reader ? readerContexts : writerContexts;
    }

    private static boolean isContext(int k) {
        return k >= 0 && k < CONTEXT_COUNT;
    }

    private static boolean fits(int context, boolean raw) {
        return raw ? context == NO_CONTEXT : isContext(context);
    }

    /** The bytes; it starts small and widens, since most objects have few of them. */
    private static final class Row {
        private static final int FIRST_WIDTH = 256;

        private int[] cells = new int[FIRST_WIDTH];
        private int used;

        int count() {
            return used;
        }

        void empty() {
            used = 0;
        }

        int byteAt(int k) {
            return k >= 0 && k < used && k < cells.length ? cells[k] : ALL_ONES;
        }

        void change(int k, int b) {
            if (k >= 0 && k < used && k < cells.length) {
                cells[k] = b;
            }
        }

        /** A byte that a segment's end would put behind the 65,536th is lost: its call can't refuse it. */
        void append(int b) {
            if (used >= cells.length && cells.length < MOST_BYTES) {
                cells = Arrays.copyOf(cells, Math.min(MOST_BYTES, 2 * cells.length));
            }
            if (used >= 0 && used < cells.length) {
                cells[used] = b;
                used++;
            }
        }

        void dropLast() {
            if (used > 0) {
                used--;
            }
        }
    }

    /** The states and likely bits of the writer, or of the reader. */
    private static final class Contexts {
        private final int[] states = new int[CONTEXT_COUNT];
        private final int[] likelyBits = new int[CONTEXT_COUNT];

        void set(int k, int state, int likely) {
            if (k >= 0 && k < states.length && k < likelyBits.length) {
                states[k] = state;
                likelyBits[k] = likely;
            }
        }

        int stateOf(int k) {
            return entry(states, k);
        }

        int likelyBitOf(int k) {
            return entry(likelyBits, k);
        }

        int partOf(int k) {
            return entry(PARTS, stateOf(k));
        }

        void afterLikely(int k) {
            set(k, entry(NEXT_STATES, stateOf(k)), likelyBitOf(k));
        }

        void afterOther(int k) {
            int state = stateOf(k);
            int likely = turns(state) ? 1 - likelyBitOf(k) : likelyBitOf(k);
            set(k, entry(OTHER_STATES, state), likely);
        }

        private static boolean turns(int state) {
            return state == 0 || state == 6 || state == 14;
        }

        private static int entry(int[] list, int k) {
            return k >= 0 && k < list.length ? list[k] : 0;
        }
    }

    /** The end of the row that the open segment has made; bytes before it are none of its own. */
    private static final class Segment {
        private final Row row;
        private int start;

        Segment(Row row) {
            this.row = row;
        }

        void begin() {
            start = row.count();
        }

        int length() {
            return row.count() - start;
        }

        int last() {
            return length() > 0 ? row.byteAt(row.count() - 1) : NOTHING;
        }

        void changeLast(int b) {
            if (length() > 0) {
                row.change(row.count() - 1, b);
            }
        }

        void append(int b) {
            row.append(b);
        }

        void dropLastIfAllOnes() {
            if (last() == ALL_ONES) {
                row.dropLast();
            }
        }
    }

    private static final class CodedWriter {
        private final Segment segment;
        private final Contexts contexts;
        private int low;
        private int size;
        private int room;

        CodedWriter(Segment segment, Contexts contexts) {
            this.segment = segment;
            this.contexts = contexts;
        }

        void begin() {
            low = 0;
            size = LEAST_SIZE;
            room = ROOM_AT_BEGINNING;
        }

        void add(int k, int bit) {
            int part = contexts.partOf(k);
            size -= part;
            if (bit == contexts.likelyBitOf(k)) {
                addLikely(k, part);
            } else {
                addOther(k, part);
            }
            enlarge();
        }

        private void addLikely(int k, int part) {
            if (size >= LEAST_SIZE) {
                low += part;
                return;
            }
            if (size < part) {
                size = part;
            } else {
                low += part;
            }
            contexts.afterLikely(k);
        }

        private void addOther(int k, int part) {
            if (size < part) {
                low += part;
            } else {
                size = part;
            }
            contexts.afterOther(k);
        }

        private void enlarge() {
            for (int i = 0; i < MOST_DOUBLINGS && size < LEAST_SIZE; i++) {
                size *= 2;
                low *= 2;
                room--;
                if (room == 0) {
                    byteOut();
                }
            }
        }

        private void byteOut() {
            int last = segment.last();
            if (last != NOTHING && last != ALL_ONES && low >= CARRY) {
                low -= CARRY;
                last++;
                segment.changeLast(last);
            }
            // Behind a 255 the byte's highest bit is left for a later carry, as the 255 can't take one.
            room = last == ALL_ONES ? 7 : 8;
            int shift = 27 - room;
            segment.append(low >>> shift & ALL_ONES);
            low &= (1 << shift) - 1;
        }

        private void fillByteOut() {
            low <<= room;
            byteOut();
        }

        void endInWay0() {
            int filled = low | 65535;
            low = filled < low + size ? filled : filled - LEAST_SIZE;
            fillByteOut();
            fillByteOut();
        }

        void endInWay1() {
            int left = ROOM_AT_BEGINNING - room;
            for (int i = 0; i < ROOM_AT_BEGINNING && left > 0; i++) {
                fillByteOut();
                left -= room;
            }
        }
    }

    private static final class RawWriter {
        private final Segment segment;
        private int room;

        RawWriter(Segment segment) {
            this.segment = segment;
        }

        void begin() {
            room = 0;
        }

        void add(int bit) {
            if (room == 0) {
                room = segment.last() == ALL_ONES ? 7 : 8;
                segment.append(0);
            }
            room--;
            segment.changeLast(segment.last() | bit << room);
        }

        void end() {
            int gap = room;
            for (int i = 0; i < gap; i++) {
                add(i & 1);
            }
        }
    }

    /** The bytes that are read; behind them are bytes 255 without end, which are not counted. */
    private static final class Source {
        private final Row row;
        private int place;
        private int length;
        private int came;

        Source(Row row) {
            this.row = row;
        }

        void begin(int newPlace, int newLength) {
            place = newPlace;
            length = newLength;
            came = 0;
        }

        int peek() {
            return came < length ? row.byteAt(place + came) : ALL_ONES;
        }

        int take() {
            int b = peek();
            if (came < length) {
                came++;
            }
            return b;
        }
    }

    private static final class CodedReader {
        private final Source source;
        private final Contexts contexts;
        private int last;
        /** Its 32 bits are a number without sign. */
        private int value;
        private int size;
        private int room;

        CodedReader(Source source, Contexts contexts) {
            this.source = source;
            this.contexts = contexts;
        }

        void begin() {
            last = source.take();
            value = last << 16;
            size = LEAST_SIZE;
            byteIn();
            value <<= 7;
            room -= 7;
        }

        private void byteIn() {
            if (last != ALL_ONES) {
                last = source.take();
                value += last << 8;
                room = 8;
            } else if (source.peek() > MOST_BEHIND_ALL_ONES) {
                value += ALL_ONES << 8;
                room = 8;
            } else {
                last = source.take();
                value += last << 9;
                room = 7;
            }
        }

        int nextBit(int k) {
            int part = contexts.partOf(k);
            int likelyBit = contexts.likelyBitOf(k);
            size -= part;
            boolean likely;
            if (value >>> 16 < part) {
                likely = size < part;
                size = part;
            } else {
                value -= part << 16;
                if (size >= LEAST_SIZE) {
                    return likelyBit;
                }
                likely = size >= part;
            }
            if (likely) {
                contexts.afterLikely(k);
            } else {
                contexts.afterOther(k);
            }
            enlarge();
            return likely ? likelyBit : 1 - likelyBit;
        }

        private void enlarge() {
            for (int i = 0; i < MOST_DOUBLINGS && size < LEAST_SIZE; i++) {
                if (room == 0) {
                    byteIn();
                }
                size *= 2;
                value *= 2;
                room--;
            }
        }
    }

    private static final class RawReader {
        private final Source source;
        private int last;
        private int left;

        RawReader(Source source) {
            this.source = source;
        }

        void begin() {
            last = 0;
            left = 0;
        }

        int nextBit() {
            if (left == 0) {
                left = last == ALL_ONES ? 7 : 8;
                last = source.take();
            }
            left--;
            return last >>> left & 1;
        }
    }
}
