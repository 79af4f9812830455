/** Sets and tells the pairs BC DE HL SP (0 to 3), which the face shows as registers alone. */
final class Pairs {
    static final int BC = 0;
    static final int DE = 1;
    static final int HL = 2;
    static final int SP = 3;

    private Pairs() {
    }

    static int of(PortProcessor processor, int pair) {
        return pair == SP ? processor.register(9) : processor.register(2 * pair) * 256 + processor.register(2 * pair + 1);
    }

    static void set(PortProcessor processor, int pair, int value) {
        if (pair == SP) {
            processor.set(9, value);
        } else {
            processor.set(2 * pair, value / 256);
            processor.set(2 * pair + 1, value % 256);
        }
    }
}
