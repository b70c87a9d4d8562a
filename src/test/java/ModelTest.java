/** Long runs of mixed calls, each answered by the class as by the model, with all that can be seen then. */
public final class ModelTest {
    private static final int RUNS = 300;
    private static final int CALLS = 512;

    /** A call of the class, or of the model, and what it answers. */
    private interface Answer {
        String text();
    }

    /** A call of the class that answers nothing. */
    private interface Silent {
        void call();
    }

    private final int run;
    private final LikelyBits x = new LikelyBits();
    private final Model model = new Model();
    /** The runs are the same every time: the numbers are made by a fixed rule. */
    private long seed;
    private int calls;
    private boolean raw;

    private ModelTest(int run) {
        this.run = run;
        seed = run * 0x9E3779B97F4A7C15L + 12345;
    }

    public static void main(String[] args) {
        for (int run = 0; run < RUNS; run++) {
            ModelTest test = new ModelTest(run);
            for (int call = 0; call < CALLS; call++) {
                test.next();
            }
        }
        Checks.end();
    }

    private void next() {
        int kind = below(80);
        if (kind < 8) {
            put();
        } else if (kind < 12) {
            context();
        } else if (kind < 17) {
            open();
        } else if (kind < 20) {
            close();
        } else if (kind < 25) {
            read();
        } else if (kind < 26) {
            small();
        } else if (kind < 28) {
            at();
        } else if (kind < 30) {
            state();
        } else {
            bitsOrWrite();
        }
    }

    private void put() {
        int[] marked = {255, 255, 143, 144, 0, 127, 128, 254};
        int b = oneIn(2) ? marked[below(marked.length)] : around(0, 255);
        compare("put(" + b + ")", () -> Checks.outcome(() -> x.put(b)), () -> model.put(b));
    }

    private void context() {
        int k = around(0, 18);
        int state = oneIn(3) ? 45 - below(6) : around(0, 46);
        int likely = around(0, 1);
        boolean reader = oneIn(2);
        String call = "context(" + reader + ", " + k + ", " + state + ", " + likely + ")";
        compare(call, () -> silent(() -> x.context(reader, k, state, likely)),
            () -> model.context(reader, k, state, likely));
    }

    private void open() {
        boolean isRaw = oneIn(3);
        String got = compare("open(" + isRaw + ")", () -> silent(() -> x.open(isRaw)), () -> model.open(isRaw));
        raw = got.equals("void") ? isRaw : raw;
    }

    private void close() {
        int way = around(0, 1);
        compare("close(" + way + ")", () -> Checks.outcome(() -> x.close(way)), () -> model.close(way));
    }

    private void read() {
        boolean isRaw = oneIn(3);
        int count = x.at(-1);
        int place = oneIn(2) ? 0 : around(0, count);
        int n = oneIn(2) ? count - place : around(0, Math.max(0, count - place));
        String got = compare("read(" + isRaw + ", " + place + ", " + n + ")",
            () -> silent(() -> x.read(isRaw, place, n)), () -> model.read(isRaw, place, n));
        raw = got.equals("void") ? isRaw : raw;
    }

    private void small() {
        if (oneIn(3)) {
            compare("clear()", () -> silent(x::clear), model::clear);
        } else {
            int w = around(0, 4);
            compare("register(" + w + ")", () -> Checks.outcome(() -> x.register(w)), () -> model.register(w));
        }
    }

    private void at() {
        int k = around(-1, x.at(-1));
        compare("at(" + k + ")", () -> Checks.outcome(() -> x.at(k)), () -> model.at(k));
    }

    private void state() {
        int k = around(0, 18);
        boolean reader = oneIn(2);
        compare("state(" + reader + ", " + k + ")", () -> Checks.outcome(() -> x.state(reader, k)),
            () -> model.state(reader, k));
    }

    private void bitsOrWrite() {
        int context = oneIn(30) ? around(-1, 18) : raw ? -1 : below(oneIn(2) ? 2 : 19);
        int n = oneIn(2) ? around(1, 8) : around(1, 64);
        long bits = likelyBits();
        boolean reads = x.register(3) >= 0 ? !oneIn(20) : oneIn(20);
        if (reads) {
            compare("bits(" + context + ", " + n + ")", () -> Checks.outcome(() -> x.bits(context, n)),
                () -> model.bits(context, n));
        } else {
            compare("write(" + context + ", " + bits + ", " + n + ")",
                () -> Checks.outcome(() -> x.write(context, bits, n)), () -> model.write(context, bits, n));
        }
    }

    /** What the class answered. All that can be seen is the model's then, and as before if it threw. */
    private String compare(String call, Answer ofClass, Answer ofModel) {
        String before = Checks.seen(x);
        String got = ofClass.text();
        String told = "run " + run + ", call " + calls++ + ": " + call;
        Checks.due(told, got, ofModel.text());
        String after = Checks.seen(x);
        Checks.due(told + ", what is seen then", after, model.seen());
        if (got.startsWith("throws.")) {
            Checks.due(told + ", what changed", after, before);
        }
        return got;
    }

    private static String silent(Silent silent) {
        String outcome = Checks.outcome(() -> {
            silent.call();
            return 0;
        });
        return outcome.equals("0") ? "void" : outcome;
    }

    private long any() {
        seed = seed * 6364136223846793005L + 1442695040888963407L;
        long mixed = (seed ^ seed >>> 29) * 0xBF58476D1CE4E5B9L;
        return mixed ^ mixed >>> 32;
    }

    private int below(int bound) {
        return (int) Long.remainderUnsigned(any(), bound);
    }

    private boolean oneIn(int n) {
        return below(n) == 0;
    }

    /** Mostly a number of the range, now and then one at or beyond its edges. */
    private int around(int from, int to) {
        if (oneIn(25)) {
            int[] edges = {from - 1, to + 1, from, to, Integer.MIN_VALUE, Integer.MAX_VALUE};
            return edges[below(edges.length)];
        }
        return from + below(to - from + 1);
    }

    /** Bits that are all the same, mostly the same, or anything. */
    private long likelyBits() {
        switch (below(5)) {
            case 0:
                return 0;
            case 1:
                return -1;
            case 2:
                return any() & any() & any();
            case 3:
                return any() | any() | any();
            default:
                return any();
        }
    }
}
