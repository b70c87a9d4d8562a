import java.util.ArrayList;
import java.util.List;

/**
 * The document's sentences one by one, without a thought for speed or size: what the class is compared
 * with. An answer is a text: a number, "void", or the name of what is thrown behind "throws.".
 */
final class Model {
    private static final String STATE = "throws.IllegalStateException";
    private static final String ARGUMENT = "throws.IllegalArgumentException";
    private static final String UNSUPPORTED = "throws.UnsupportedOperationException";
    private static final int[][] TABLE = {
        {22017, 1, 1}, {13313, 2, 6}, {6145, 3, 9}, {2753, 4, 12}, {1313, 5, 29}, {545, 38, 33},
        {22017, 7, 6}, {21505, 8, 14}, {18433, 9, 14}, {14337, 10, 14},
        {12289, 11, 17}, {9217, 12, 18}, {7169, 13, 20}, {5633, 29, 21}, {22017, 15, 14},
        {21505, 16, 14}, {20737, 17, 15}, {18433, 18, 16}, {14337, 19, 17}, {13313, 20, 18},
        {12289, 21, 19}, {10241, 22, 19}, {9217, 23, 20}, {8705, 24, 21}, {7169, 25, 22},
        {6145, 26, 23}, {5633, 27, 24}, {5121, 28, 25}, {4609, 29, 26}, {4353, 30, 27},
        {2753, 31, 28}, {2497, 32, 29}, {2209, 33, 30}, {1313, 34, 31}, {1089, 35, 32},
        {673, 36, 33}, {545, 37, 34}, {321, 38, 35}, {273, 39, 36}, {133, 40, 37},
        {73, 41, 38}, {37, 42, 39}, {21, 43, 40}, {9, 44, 41}, {5, 45, 42}, {1, 45, 43}, {22017, 46, 46},
    };

    private List<Integer> bytes = new ArrayList<>();
    private final int[][] writer = new int[19][2];
    private final int[][] reader = new int[19][2];

    /** The open segment, none if null; of a raw one its bits as they are written, stuffed ones too. */
    private List<Integer> segment;
    private boolean raw;
    private StringBuilder rawBits;
    private long low;
    private long size;
    private long room;

    /** What is read, nothing if null; of raw ones all bits but those that are passed over. */
    private List<Integer> source;
    private boolean sourceRaw;
    private int rawRead;
    private int next;
    private long value;
    private long sourceSize;
    private long sourceRoom;

    String clear() {
        bytes = new ArrayList<>();
        segment = null;
        source = null;
        return "void";
    }

    private List<Integer> all() {
        List<Integer> all = new ArrayList<>(bytes);
        if (segment != null) {
            all.addAll(raw ? packed() : segment);
        }
        return all;
    }

    /** A raw segment's bytes; a last one that isn't full has zeros in its free bits. */
    private List<Integer> packed() {
        List<Integer> packed = new ArrayList<>();
        for (int i = 0; i < rawBits.length(); i += 8) {
            String eight = (rawBits.substring(i) + "0000000").substring(0, 8);
            packed.add(Integer.parseInt(eight, 2));
        }
        return packed;
    }

    String put(int b) {
        if (b < 0 || b > 255) {
            return ARGUMENT;
        }
        if (segment != null) {
            return STATE;
        }
        if (bytes.size() == 65536) {
            return UNSUPPORTED;
        }
        bytes.add(b);
        return "" + bytes.size();
    }

    String at(int k) {
        List<Integer> all = all();
        if (k == -1) {
            return "" + all.size();
        }
        return k >= 0 && k < all.size() ? "" + all.get(k) : "throws.IndexOutOfBoundsException";
    }

    String context(boolean ofReader, int k, int state, int likely) {
        if (k < 0 || k > 18 || state < 0 || state > 46 || likely < 0 || likely > 1) {
            return ARGUMENT;
        }
        (ofReader ? reader : writer)[k] = new int[] {state, likely};
        return "void";
    }

    String state(boolean ofReader, int k) {
        if (k < 0 || k > 18) {
            return ARGUMENT;
        }
        int[] c = (ofReader ? reader : writer)[k];
        return "" + (2 * c[0] + c[1]);
    }

    String open(boolean isRaw) {
        if (segment != null) {
            return STATE;
        }
        source = null;
        segment = new ArrayList<>();
        raw = isRaw;
        rawBits = new StringBuilder();
        low = 0;
        size = 32768;
        room = 12;
        return "void";
    }

    private static boolean wrong(int context, int n, boolean isRaw) {
        return n < 1 || n > 64 || (isRaw ? context != -1 : context < 0 || context > 18);
    }

    String write(int context, long bits, int n) {
        if (segment == null) {
            return STATE;
        }
        if (wrong(context, n, raw)) {
            return ARGUMENT;
        }
        if (all().size() > 65000) {
            return UNSUPPORTED;
        }
        for (int i = n - 1; i >= 0; i--) {
            int bit = (bits & 1L << i) != 0 ? 1 : 0;
            if (raw) {
                writeRaw(bit);
            } else {
                writeCoded(writer[context], bit);
            }
        }
        return "" + (raw ? packed() : segment).size();
    }

    private void writeRaw(int bit) {
        int length = rawBits.length();
        if (length % 8 == 0 && length > 0 && rawBits.substring(length - 8).equals("11111111")) {
            rawBits.append('0');
        }
        rawBits.append(bit);
    }

    private static void change(int[] c, boolean likely) {
        int[] row = TABLE[c[0]];
        if (!likely && (c[0] == 0 || c[0] == 6 || c[0] == 14)) {
            c[1] ^= 1;
        }
        c[0] = likely ? row[1] : row[2];
    }

    private void writeCoded(int[] c, int bit) {
        int p = TABLE[c[0]][0];
        boolean likely = bit == c[1];
        size -= p;
        if (likely && size >= 32768) {
            low += p;
            return;
        }
        // The likely bit has the larger of the two, which lie as the part below and the rest above it.
        boolean lower = likely == size < p;
        if (lower) {
            size = p;
        } else {
            low += p;
        }
        change(c, likely);
        while (size < 32768) {
            size *= 2;
            low *= 2;
            if (--room == 0) {
                out();
            }
        }
    }

    private boolean lastIs255() {
        return !segment.isEmpty() && segment.get(segment.size() - 1) == 255;
    }

    private void out() {
        if (!segment.isEmpty() && !lastIs255() && low >= 1L << 27) {
            low -= 1L << 27;
            segment.set(segment.size() - 1, segment.get(segment.size() - 1) + 1);
        }
        long unit = lastIs255() ? 1L << 20 : 1L << 19;
        room = lastIs255() ? 7 : 8;
        segment.add((int) (low / unit % 256));
        low %= unit;
    }

    String enough() {
        if (segment == null) {
            return STATE;
        }
        return "" + (raw ? packed().size() : segment.size() + 5);
    }

    String close(int way) {
        if (segment == null) {
            return STATE;
        }
        if (way != 0 && way != 1) {
            return ARGUMENT;
        }
        if (raw) {
            for (int bit = 0; rawBits.length() % 8 != 0; bit ^= 1) {
                rawBits.append(bit);
            }
            segment = packed();
        } else {
            endCoded(way);
        }
        if (lastIs255()) {
            segment.remove(segment.size() - 1);
        }
        int length = segment.size();
        bytes.addAll(segment);
        segment = null;
        return "" + length;
    }

    private void endCoded(int way) {
        if (way == 0) {
            long m = low - low % 65536 + 65535;
            low = m >= low + size ? m - 32768 : m;
            for (int twice = 0; twice < 2; twice++) {
                low *= 1L << room;
                out();
            }
            return;
        }
        for (long n = 12 - room; n > 0; n -= room) {
            low *= 1L << room;
            out();
        }
    }

    String read(boolean isRaw, int place, int n) {
        if (segment != null) {
            return STATE;
        }
        if (place < 0 || place > bytes.size() || n < 0 || (long) place + n > bytes.size()) {
            return ARGUMENT;
        }
        source = new ArrayList<>(bytes.subList(place, place + n));
        sourceRaw = isRaw;
        rawRead = 0;
        next = 1;
        if (!isRaw) {
            value = sourceByte(0) * 65536L;
            sourceSize = 32768;
            in();
            value = value * 128 % (1L << 32);
            sourceRoom -= 7;
        }
        return "void";
    }

    private int sourceByte(int k) {
        return k < source.size() ? source.get(k) : 255;
    }

    private void in() {
        int came = sourceByte(next - 1);
        int behind = sourceByte(next);
        sourceRoom = 8;
        if (came == 255 && behind > 143) {
            value += 65280;
        } else if (came == 255) {
            value += 512L * behind;
            sourceRoom = 7;
            next++;
        } else {
            value += 256L * behind;
            next++;
        }
        value %= 1L << 32;
    }

    String bits(int context, int n) {
        if (source == null) {
            return STATE;
        }
        if (wrong(context, n, sourceRaw)) {
            return ARGUMENT;
        }
        StringBuilder found = new StringBuilder();
        for (int i = 0; i < n; i++) {
            found.append(sourceRaw ? rawBit(rawRead++) : codedBit(reader[context]));
        }
        return "" + Long.parseUnsignedLong(found.toString(), 2);
    }

    /** How many of the source's bytes have begun when so many bits are read, those behind the end too. */
    private int begun(int bitsRead) {
        int count = 0;
        for (int bits = 0; bits < bitsRead; count++) {
            bits += count > 0 && sourceByte(count - 1) == 255 ? 7 : 8;
        }
        return count;
    }

    private int rawBit(int k) {
        int byteOfIt = begun(k + 1) - 1;
        int first = k;
        while (first > 0 && begun(first) - 1 == byteOfIt) {
            first--;
        }
        int width = byteOfIt > 0 && sourceByte(byteOfIt - 1) == 255 ? 7 : 8;
        return sourceByte(byteOfIt) / (1 << width - 1 - (k - first)) % 2;
    }

    private int codedBit(int[] c) {
        int p = TABLE[c[0]][0];
        int likelyBit = c[1];
        boolean likely;
        sourceSize -= p;
        if (value / 65536 < p) {
            likely = sourceSize < p;
            sourceSize = p;
        } else {
            value -= p * 65536L;
            if (sourceSize >= 32768) {
                return likelyBit;
            }
            likely = !(sourceSize < p);
        }
        change(c, likely);
        while (sourceSize < 32768) {
            if (sourceRoom == 0) {
                in();
            }
            sourceSize *= 2;
            value = value * 2 % (1L << 32);
            sourceRoom--;
        }
        return likely ? likelyBit : 1 - likelyBit;
    }

    String register(int w) {
        long answer = -1;
        if (segment != null && w == 2) {
            answer = raw ? (8 - rawBits.length() % 8) % 8 : room;
        } else if (segment != null && !raw && (w == 0 || w == 1)) {
            answer = w == 0 ? low : size;
        } else if (source != null && w == 3) {
            answer = Math.min(source.size(), sourceRaw ? begun(rawRead) : next);
        } else if (source != null && !sourceRaw && w == 4) {
            answer = sourceSize;
        }
        return "" + answer;
    }

    /** The same text as Checks.seen makes of an object of the class. */
    String seen() {
        StringBuilder seen = new StringBuilder("bytes");
        for (int b : all()) {
            seen.append(' ').append(b);
        }
        seen.append(" contexts");
        for (int k = 0; k < 19; k++) {
            seen.append(' ').append(state(false, k)).append('/').append(state(true, k));
        }
        seen.append(" registers");
        for (int w = 0; w < 5; w++) {
            seen.append(' ').append(register(w));
        }
        return seen.append(" enough ").append(enough()).toString();
    }
}
