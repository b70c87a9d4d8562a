import java.util.ArrayList;
import java.util.List;

/**
 * "A call that throws changes nothing": of two objects alike one has every call that can be refused there,
 * and then both answer all that follows alike, down to the bits that no other call can see.
 */
public final class RefusedCallsTest {
    private static final int MOST = Integer.MAX_VALUE;
    private static final int LEAST = Integer.MIN_VALUE;

    private final int condition;
    private final LikelyBits x;
    private final List<String> refused = new ArrayList<>();

    private RefusedCallsTest(int condition) {
        this.condition = condition;
        x = Condition.made(condition);
    }

    public static void main(String[] args) {
        for (int condition = 0; condition < Condition.COUNT; condition++) {
            RefusedCallsTest test = new RefusedCallsTest(condition);
            test.refuseAll();
            LikelyBits alike = Condition.made(condition);
            String label = "behind refused calls, " + Condition.name(condition);
            Checks.due(label + ", what is seen", Checks.seen(test.x), Checks.seen(alike));
            Checks.due(label, followUp(test.x, condition), followUp(alike, condition));
            eachAlone(condition, test.refused.size());
        }
        Checks.end();
    }

    /** Each of the refused calls by itself, so that no second one mends what the first one broke. */
    private static void eachAlone(int condition, int count) {
        for (int only = 0; only < count; only++) {
            RefusedCallsTest test = new RefusedCallsTest(condition);
            test.refuse(only);
            String label = "behind " + test.refused.get(only) + ", " + Condition.name(condition);
            Checks.due(label, followUp(test.x, condition), followUp(Condition.made(condition), condition));
        }
    }

    /** What an object answers from here on, as far as its condition lets it go. */
    private static String followUp(LikelyBits x, int condition) {
        StringBuilder all = new StringBuilder();
        for (int i = 0; i < 30; i++) {
            if (condition == 1 || condition == 2) {
                all.append(x.write(condition == 1 ? 3 : -1, 0x5L * i, 5)).append(' ');
            } else if (condition == 3 || condition == 4) {
                all.append(x.bits(condition == 3 ? 4 : -1, 3)).append(' ');
            } else {
                all.append(x.put(i)).append(' ');
            }
            all.append(x.register(0)).append(' ').append(x.register(2)).append(' ').append(x.register(4));
            all.append(' ');
        }
        if (condition == 1 || condition == 2) {
            all.append(x.close(0)).append(' ');
        }
        x.open(false);
        all.append(x.write(3, 0x77, 9)).append(' ').append(x.close(1)).append(' ');
        x.read(false, 0, x.at(-1));
        all.append(x.bits(4, 64)).append(' ');
        return all.append(Checks.seen(x)).toString();
    }

    private void refuseAll() {
        refuse(-1);
    }

    /** Calls all that are refused in this condition, or only one of them. */
    private void refuse(int only) {
        boolean open = condition == 1 || condition == 2;
        boolean reads = condition == 3 || condition == 4;
        boolean raw = condition == 2 || condition == 4;
        refuseAnywhere(only);
        if (open) {
            call(only, "put(0)", "IllegalStateException", () -> x.put(0));
            call(only, "open(false)", "IllegalStateException", () -> x.open(false));
            call(only, "open(true)", "IllegalStateException", () -> x.open(true));
            call(only, "read(false, 0, 1)", "IllegalStateException", () -> x.read(false, 0, 1));
            call(only, "read(true, 0, 0)", "IllegalStateException", () -> x.read(true, 0, 0));
            refuseWrites(only, raw);
            for (int way : new int[] {-1, 2, LEAST, MOST}) {
                call(only, "close(" + way + ")", "IllegalArgumentException", () -> x.close(way));
            }
        } else {
            call(only, "write(3, 1, 9)", "IllegalStateException", () -> x.write(3, 1, 9));
            call(only, "write(-1, 1, 9)", "IllegalStateException", () -> x.write(-1, 1, 9));
            call(only, "close(0)", "IllegalStateException", () -> x.close(0));
            call(only, "close(1)", "IllegalStateException", () -> x.close(1));
            call(only, "enough()", "IllegalStateException", x::enough);
            refuseReads(only);
        }
        if (reads) {
            refuseBits(only, raw);
        } else {
            call(only, "bits(4, 9)", "IllegalStateException", () -> x.bits(4, 9));
            call(only, "bits(-1, 9)", "IllegalStateException", () -> x.bits(-1, 9));
        }
    }

    private void refuseAnywhere(int only) {
        for (int b : new int[] {-1, 256, LEAST, MOST}) {
            call(only, "put(" + b + ")", "IllegalArgumentException", () -> x.put(b));
        }
        for (int k : new int[] {-2, x.at(-1), LEAST, MOST}) {
            call(only, "at(" + k + ")", "IndexOutOfBoundsException", () -> x.at(k));
        }
        for (boolean reader : new boolean[] {false, true}) {
            for (int k : new int[] {-1, 19, LEAST, MOST}) {
                String of = "(" + reader + ", " + k;
                call(only, "context" + of + ", 9, 1)", "IllegalArgumentException", () -> x.context(reader, k, 9, 1));
                call(only, "state" + of + ")", "IllegalArgumentException", () -> x.state(reader, k));
            }
            int used = reader ? 4 : 3;
            for (int state : new int[] {-1, 47, LEAST, MOST}) {
                call(only, "context(.., " + state + ", 0)", "IllegalArgumentException",
                    () -> x.context(reader, used, state, 0));
            }
            for (int likely : new int[] {-1, 2, LEAST, MOST}) {
                call(only, "context(.., 9, " + likely + ")", "IllegalArgumentException",
                    () -> x.context(reader, used, 9, likely));
            }
        }
    }

    private void refuseWrites(int only, boolean raw) {
        for (int k : new int[] {raw ? 0 : -1, raw ? 18 : 19, -2, LEAST, MOST}) {
            call(only, "write(" + k + ", 1, 9)", "IllegalArgumentException", () -> x.write(k, 1, 9));
        }
        for (int n : new int[] {0, 65, -1, LEAST, MOST}) {
            call(only, "write(.., " + n + ")", "IllegalArgumentException", () -> x.write(raw ? -1 : 3, 1, n));
        }
    }

    private void refuseBits(int only, boolean raw) {
        for (int k : new int[] {raw ? 0 : -1, raw ? 18 : 19, -2, LEAST, MOST}) {
            call(only, "bits(" + k + ", 9)", "IllegalArgumentException", () -> x.bits(k, 9));
        }
        for (int n : new int[] {0, 65, -1, LEAST, MOST}) {
            call(only, "bits(.., " + n + ")", "IllegalArgumentException", () -> x.bits(raw ? -1 : 4, n));
        }
    }

    private void refuseReads(int only) {
        int[][] wrong = {{-1, 0}, {-1, 1}, {5, 0}, {4, 1}, {0, 5}, {0, -1}, {1, MOST}, {MOST, 1}, {LEAST, LEAST}};
        for (int[] pair : wrong) {
            for (boolean raw : new boolean[] {false, true}) {
                String call = "read(" + raw + ", " + pair[0] + ", " + pair[1] + ")";
                call(only, call, "IllegalArgumentException", () -> x.read(raw, pair[0], pair[1]));
            }
        }
    }

    private void call(int only, String name, String exception, Runnable run) {
        boolean due = only == -1 || only == refused.size();
        refused.add(name);
        if (due) {
            String outcome = Checks.outcome(() -> {
                run.run();
                return 0;
            });
            Checks.due(name + ", " + Condition.name(condition), outcome, "throws." + exception);
        }
    }
}
