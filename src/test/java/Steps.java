/**
 * Single bits in context 0, each in a state that is set before it, so that a run of them leads just to an
 * edge: "46+ 45-" is the likely bit in state 46, then the other one in state 45. The likely bit is 0.
 */
final class Steps {
    private Steps() {
    }

    /** A new object whose open coded segment has these steps. */
    static LikelyBits written(String steps) {
        LikelyBits x = new LikelyBits();
        x.open(false);
        write(x, steps);
        return x;
    }

    static void write(LikelyBits x, String steps) {
        for (String step : steps.split(" ")) {
            int state = Integer.parseInt(step.substring(0, step.length() - 1));
            x.context(false, 0, state, 0);
            x.write(0, step.endsWith("+") ? 0 : 1, 1);
        }
    }

    /** A new object that reads all of these bytes as coded bits. */
    static LikelyBits reading(int... bytes) {
        LikelyBits x = new LikelyBits();
        Checks.putAll(x, bytes);
        x.read(false, 0, bytes.length);
        return x;
    }

    /** The steps that a bit in each of these states makes: "46 45" may become "46+ 45-". */
    static String read(LikelyBits x, String states) {
        StringBuilder steps = new StringBuilder();
        for (String state : states.split(" ")) {
            x.context(true, 0, Integer.parseInt(state), 0);
            steps.append(steps.length() == 0 ? "" : " ").append(state);
            steps.append(x.bits(0, 1) == 0 ? "+" : "-");
        }
        return steps.toString();
    }

    /** LOW, SIZE, ROOM, and the bytes. */
    static String writer(LikelyBits x) {
        String bytes = x.at(-1) == 0 ? ":" : ": " + Checks.bytes(x);
        return x.register(0) + " " + x.register(1) + " " + x.register(2) + bytes;
    }

    static void leadTo(String steps, String registersAndBytes) {
        Checks.due("behind " + steps, writer(written(steps)), registersAndBytes);
    }

    static void endAs(String steps, int way, String bytes) {
        LikelyBits x = written(steps);
        int length = x.close(way);
        Checks.due("close(" + way + ") behind " + steps + ", the bytes", Checks.bytes(x), bytes);
        Checks.due("close(" + way + ") behind " + steps, length, x.at(-1));
    }
}
