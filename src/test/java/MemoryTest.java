/** Promises 2 and 3: load and peek. */
public final class MemoryTest {
    public static void main(String[] args) {
        loadsTheLowestBytesHighestFirst();
        loadsAtBothEnds();
        refusesWrongLoads();
        refusesWrongPeeks();
        aRefusedLoadChangesNothing();
        Check.finish();
    }

    private static void loadsTheLowestBytesHighestFirst() {
        long bytes = 0xF1E2D3C4B5A69788L;
        for (int n = 1; n <= 8; n++) {
            PortProcessor processor = new PortProcessor();
            processor.load(100, bytes, n);
            for (int i = 0; i < n; i++) {
                Check.same("byte " + i + " of " + n, processor.peek(100 + i), bytes >>> 8 * (n - 1 - i) & 255);
            }
            Check.same("the byte before " + n, processor.peek(99), 0);
            Check.same("the byte behind " + n, processor.peek(100 + n), 0);
        }
        PortProcessor processor = new PortProcessor();
        processor.load(0, -1L, 8);
        processor.load(2, 0L, 3);
        for (int i = 0; i < 8; i++) {
            Check.same("byte " + i + " after a second load", processor.peek(i), i >= 2 && i < 5 ? 0 : 255);
        }
    }

    private static void loadsAtBothEnds() {
        PortProcessor processor = new PortProcessor();
        processor.load(0, 0x0102030405060708L, 8);
        processor.load(1016, 0x1112131415161718L, 8);
        Check.same("peek(0)", processor.peek(0), 1);
        Check.same("peek(1016)", processor.peek(1016), 0x11);
        Check.same("peek(1023)", processor.peek(1023), 0x18);
        processor.load(1023, 0x99, 1);
        Check.same("peek(1023)", processor.peek(1023), 0x99);
        processor.load(1022, 0x5566, 2);
        Check.same("peek(1022)", processor.peek(1022), 0x55);
        Check.same("peek(1023)", processor.peek(1023), 0x66);
    }

    private static void refusesWrongLoads() {
        PortProcessor processor = new PortProcessor();
        int[] wrongNumbers = {0, -1, 9, Integer.MIN_VALUE, Integer.MAX_VALUE};
        for (int n : wrongNumbers) {
            Check.refused("load(0, 1, " + n + ")", () -> processor.load(0, 1, n));
        }
        for (int n = 1; n <= 8; n++) {
            int bytes = n;
            int[] wrongAddresses = {1024 - n + 1, 1024, 65535, -1, -n, Integer.MIN_VALUE, Integer.MAX_VALUE, Integer.MAX_VALUE - n + 1};
            for (int address : wrongAddresses) {
                Check.refused("load(" + address + ", 1, " + n + ")", () -> processor.load(address, 1, bytes));
            }
        }
    }

    private static void refusesWrongPeeks() {
        PortProcessor processor = new PortProcessor();
        int[] wrong = {-1, 1024, 65535, 65536, Integer.MIN_VALUE, Integer.MAX_VALUE};
        for (int address : wrong) {
            Check.refused("peek(" + address + ")", () -> processor.peek(address));
        }
    }

    private static void aRefusedLoadChangesNothing() {
        PortProcessor processor = new PortProcessor();
        Check.refused("load(1020, -1, 8)", () -> processor.load(1020, -1L, 8));
        for (int address = 1020; address < 1024; address++) {
            Check.same("peek(" + address + ")", processor.peek(address), 0);
        }
    }
}
