/** The five conditions that an object can be in, each in the midst of a byte. */
final class Condition {
    static final int COUNT = 5;

    private static final String[] NAMES = {
        "nothing open or read", "a coded segment open", "a raw segment open", "coded bits read", "raw bits read",
    };

    private Condition() {
    }

    static String name(int condition) {
        return NAMES[condition];
    }

    static LikelyBits made(int condition) {
        LikelyBits x = new LikelyBits();
        Checks.putAll(x, 0x5A, 255, 0x93, 0x07);
        x.context(false, 3, 30, 1);
        x.context(true, 4, 31, 1);
        switch (condition) {
            case 1:
                x.open(false);
                x.write(3, 0x1234_5678_9ABCL, 47);
                break;
            case 2:
                x.open(true);
                x.write(-1, 0x1FFF, 13);
                break;
            case 3:
                x.read(false, 0, 4);
                x.bits(4, 5);
                break;
            case 4:
                x.read(true, 0, 4);
                x.bits(-1, 19);
                break;
            default:
                break;
        }
        return x;
    }
}
