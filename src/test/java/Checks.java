/** What every test here uses: it prints each answer that is not as due, and counts them. */
final class Checks {
    private static int done = 0;
    private static int wrong = 0;

    private Checks() {
    }

    /** A call whose answer is compared. */
    interface Call {
        long answer();
    }

    static void due(String call, long got, long want) {
        done++;
        if (got != want) {
            wrong++;
            System.out.println(call + " answered " + got + ", due is " + want);
        }
    }

    static void due(String call, String got, String want) {
        done++;
        if (!got.equals(want)) {
            wrong++;
            System.out.println(call + ": " + got + ", due is " + want);
        }
    }

    /** The answer as a text, or the name of what was thrown, behind "throws.". */
    static String outcome(Call call) {
        try {
            return Long.toString(call.answer());
        } catch (RuntimeException e) {
            return "throws." + e.getClass().getSimpleName();
        }
    }

    /** The call throws just that exception, and nothing of the object that can be seen changes. */
    static void refused(String call, String exception, LikelyBits x, Call c) {
        String before = seen(x);
        due(call, outcome(c), "throws." + exception);
        due(call + ", what changed", seen(x), before);
    }

    /** All that can be seen of an object without changing it. */
    static String seen(LikelyBits x) {
        StringBuilder all = new StringBuilder("bytes");
        int count = x.at(-1);
        for (int k = 0; k < count; k++) {
            all.append(' ').append(x.at(k));
        }
        all.append(" contexts");
        for (int k = 0; k < 19; k++) {
            all.append(' ').append(x.state(false, k)).append('/').append(x.state(true, k));
        }
        all.append(" registers");
        for (int w = 0; w < 5; w++) {
            all.append(' ').append(x.register(w));
        }
        return all.append(" enough ").append(outcome(x::enough)).toString();
    }

    static String bytes(LikelyBits x) {
        StringBuilder all = new StringBuilder();
        int count = x.at(-1);
        for (int k = 0; k < count; k++) {
            all.append(k == 0 ? "" : " ").append(x.at(k));
        }
        return all.toString();
    }

    static void putAll(LikelyBits x, int... bytes) {
        for (int b : bytes) {
            x.put(b);
        }
    }

    static void end() {
        System.out.println(done + " answers compared, " + wrong + " of them not as due");
        if (wrong != 0 || done == 0) {
            System.exit(1);
        }
    }
}
