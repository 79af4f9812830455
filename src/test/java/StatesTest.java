/** Promise 12: states, for every instruction byte. */
public final class StatesTest {
    // What each byte takes with all flags 0; a condition that holds for 0 is met then.
    private static final int[] WITH_FLAGS_0 = {
        4, 10, 7, 5, 5, 5, 7, 4, 4, 10, 7, 5, 5, 5, 7, 4,
        4, 10, 7, 5, 5, 5, 7, 4, 4, 10, 7, 5, 5, 5, 7, 4,
        4, 10, 16, 5, 5, 5, 7, 4, 4, 10, 16, 5, 5, 5, 7, 4,
        4, 10, 13, 5, 10, 10, 10, 4, 4, 10, 13, 5, 5, 5, 7, 4,
        5, 5, 5, 5, 5, 5, 7, 5, 5, 5, 5, 5, 5, 5, 7, 5,
        5, 5, 5, 5, 5, 5, 7, 5, 5, 5, 5, 5, 5, 5, 7, 5,
        5, 5, 5, 5, 5, 5, 7, 5, 5, 5, 5, 5, 5, 5, 7, 5,
        7, 7, 7, 7, 7, 7, 7, 7, 5, 5, 5, 5, 5, 5, 7, 5,
        4, 4, 4, 4, 4, 4, 7, 4, 4, 4, 4, 4, 4, 4, 7, 4,
        4, 4, 4, 4, 4, 4, 7, 4, 4, 4, 4, 4, 4, 4, 7, 4,
        4, 4, 4, 4, 4, 4, 7, 4, 4, 4, 4, 4, 4, 4, 7, 4,
        4, 4, 4, 4, 4, 4, 7, 4, 4, 4, 4, 4, 4, 4, 7, 4,
        11, 10, 10, 10, 17, 11, 7, 11, 5, 10, 10, 10, 11, 17, 7, 11,
        11, 10, 10, 10, 17, 11, 7, 11, 5, 10, 10, 10, 11, 17, 7, 11,
        11, 10, 10, 18, 17, 11, 7, 11, 5, 5, 10, 4, 11, 17, 7, 11,
        11, 10, 10, 4, 17, 11, 7, 11, 5, 5, 10, 4, 11, 17, 7, 11,
    };

    public static void main(String[] args) {
        for (int code = 0; code < 256; code++) {
            Check.same("states of " + Integer.toHexString(code), statesOf(code, 0), WITH_FLAGS_0[code]);
            Check.same("states of " + Integer.toHexString(code) + " with all flags 1", statesOf(code, 255), withFlags1(code));
        }
        addsUp();
        Check.finish();
    }

    private static long statesOf(int code, int flags) {
        PortProcessor processor = Check.with(code);
        processor.set(8, flags);
        processor.run(1);
        return processor.states();
    }

    private static int withFlags1(int code) {
        // Conditional returns and calls: those with bit 3 set are met instead of those without it.
        boolean conditional = code >= 0xC0 && ((code & 7) == 0 || (code & 7) == 4);
        return WITH_FLAGS_0[conditional ? code ^ 8 : code];
    }

    private static void addsUp() {
        PortProcessor processor = new PortProcessor();
        Check.place(processor, 1021, 0xC3, 0, 0);
        for (int i = 0; i < 100; i++) {
            processor.run(500);
        }
        // 1021 bytes of nothing and a jump are 1022 instructions.
        long rounds = 50000 / 1022;
        long rest = 50000 % 1022;
        Check.same("states()", processor.states(), rounds * (1021 * 4 + 10) + rest * 4);
        Check.same("states() again", processor.states(), rounds * (1021 * 4 + 10) + rest * 4);
    }
}
