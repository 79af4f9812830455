/** The least and the most that the face takes and tells: bytes of load, ports, registers, and an object's 512 calls. */
public final class EdgeOfUseTest {
    private static final int CALLS = 512;

    public static void main(String[] args) {
        loadsOneByteAndEight();
        loadsOnlyTheLowestBytes();
        loadsUpToBothEnds();
        peeksAtBothEnds();
        startsAtBothEnds();
        theFirstAndTheLastPortBringIn();
        theFirstAndTheLastPortPutOut();
        zeroPutOutIsNotNothing();
        setsTheLeastAndTheMost();
        readsMWithoutAChange();
        questionsChangeNothing();
        noStatesAtFirst();
        answersTheLastCallToo();
        countsTheMostStates();
        Check.finish();
    }

    /** Promise 2: "n bytes (1 .. 8; ...)". */
    private static void loadsOneByteAndEight() {
        PortProcessor processor = new PortProcessor();
        processor.load(10, 0x0102030405060708L, 8);
        for (int i = 0; i < 8; i++) {
            Check.same("peek(" + (10 + i) + ")", processor.peek(10 + i), i + 1);
        }
        Check.same("peek(9)", processor.peek(9), 0);
        Check.same("peek(18)", processor.peek(18), 0);
        processor.load(12, 0x99, 1);
        Check.same("peek(11)", processor.peek(11), 2);
        Check.same("peek(12)", processor.peek(12), 0x99);
        Check.same("peek(13)", processor.peek(13), 4);
    }

    /** Promise 2: "the lowest of bytes, the highest of these first". */
    private static void loadsOnlyTheLowestBytes() {
        long[] all = {0L, -1L, Long.MIN_VALUE, Long.MAX_VALUE, 0x80L, 0xFF00L, 0x1122334455667788L, 0xFEDCBA9876543210L};
        for (long bytes : all) {
            for (int n = 1; n <= 8; n++) {
                PortProcessor processor = new PortProcessor();
                processor.load(500, 0x6666666666666666L, 8);
                processor.load(500, bytes, n);
                String digits = String.format("%016x", bytes).substring(16 - 2 * n) + "66".repeat(8 - n);
                for (int i = 0; i < 8; i++) {
                    int due = Integer.parseInt(digits.substring(2 * i, 2 * i + 2), 16);
                    Check.same("byte " + i + " of load(500, " + bytes + ", " + n + ")", processor.peek(500 + i), due);
                }
            }
        }
    }

    private static void loadsUpToBothEnds() {
        for (int n = 1; n <= 8; n++) {
            PortProcessor processor = new PortProcessor();
            processor.load(0, -1L, n);
            processor.load(1024 - n, -1L, n);
            for (int i = 0; i < 9; i++) {
                Check.same("peek(" + i + ") of " + n, processor.peek(i), i < n ? 255 : 0);
                Check.same("peek(" + (1023 - i) + ") of " + n, processor.peek(1023 - i), i < n ? 255 : 0);
            }
        }
    }

    private static void peeksAtBothEnds() {
        PortProcessor processor = new PortProcessor();
        processor.load(0, 0x81, 1);
        processor.load(1023, 0x18, 1);
        Check.same("peek(0)", processor.peek(0), 0x81);
        Check.same("peek(1023)", processor.peek(1023), 0x18);
        Check.same("peek(1)", processor.peek(1), 0);
        Check.same("peek(1022)", processor.peek(1022), 0);
    }

    private static void startsAtBothEnds() {
        int[] addresses = {0, 1, 1023, 1024, 65534, 65535};
        for (int address : addresses) {
            PortProcessor processor = Check.with(0x76);
            processor.run(1);
            processor.start(address);
            Check.same("PC", processor.register(10), address);
            Check.no("halted", processor.is(0));
            Check.same("states()", processor.states(), 7);
        }
    }

    /** Promise 7: "What a port brings in from now on. (0 at first.)" */
    private static void theFirstAndTheLastPortBringIn() {
        int[] ports = {0, 1, 127, 128, 254, 255};
        int[] values = {0, 1, 127, 128, 255};
        for (int port : ports) {
            PortProcessor first = Check.with(0xDB, port);
            first.set(7, 99);
            first.run(1);
            Check.same("port " + port + " at first", first.register(7), 0);
            for (int value : values) {
                PortProcessor processor = Check.with(0xDB, port, 0xDB, 255 - port);
                processor.bring(port, 33);
                processor.bring(port, value);
                processor.set(7, 99);
                processor.run(1);
                Check.same("port " + port + " brings in", processor.register(7), value);
                processor.run(1);
                Check.same("the other port brings in", processor.register(7), 0);
            }
        }
    }

    /** Promise 8: "What was put out by a port last; -1 when nothing was". */
    private static void theFirstAndTheLastPortPutOut() {
        int[] ports = {0, 1, 127, 128, 254, 255};
        int[] values = {0, 1, 127, 128, 255};
        for (int port : ports) {
            for (int value : values) {
                PortProcessor processor = Check.with(0xD3, port);
                processor.set(7, value);
                Check.same("out(" + port + ") before", processor.out(port), -1);
                processor.run(1);
                Check.same("out(" + port + ")", processor.out(port), value);
                Check.same("out(" + (255 - port) + ")", processor.out(255 - port), -1);
            }
        }
    }

    private static void zeroPutOutIsNotNothing() {
        PortProcessor processor = Check.with(0xD3, 5, 0x3D, 0xD3, 5, 0x3C, 0xD3, 5);
        processor.bring(5, 44);
        Check.same("out(5) when it only brings in", processor.out(5), -1);
        processor.run(1);
        Check.same("out(5) of 0", processor.out(5), 0);
        processor.run(2);
        Check.same("out(5) of 255", processor.out(5), 255);
        processor.run(1);
        Check.same("out(5) before the next is put out", processor.out(5), 255);
        processor.run(1);
        Check.same("out(5) of 0 again", processor.out(5), 0);
    }

    /** Promise 10: "register 0 .. 5 or 7 to a byte, 8 the flags (its five bits), 9 SP (an address)". */
    private static void setsTheLeastAndTheMost() {
        int[][] cases = {
            {0, 0, 0}, {0, 255, 255}, {1, 0, 0}, {1, 255, 255}, {2, 0, 0}, {2, 255, 255}, {3, 0, 0}, {3, 255, 255},
            {4, 0, 0}, {4, 255, 255}, {5, 0, 0}, {5, 255, 255}, {7, 0, 0}, {7, 255, 255}, {8, 0, 2}, {8, 255, 0xD7},
            {9, 0, 0}, {9, 65535, 65535},
        };
        for (int[] c : cases) {
            PortProcessor processor = new PortProcessor();
            for (int register = 0; register <= 9; register++) {
                if (register != 6) {
                    processor.set(register, 0x55);
                }
            }
            processor.set(c[0], c[1]);
            for (int register = 0; register <= 10; register++) {
                int kept = register == 8 ? 0x57 : register == 10 ? 0 : 0x55;
                // M is what H and L make it.
                if (register != 6) {
                    String what = "register(" + register + ") after set(" + c[0] + ", " + c[1] + ")";
                    Check.same(what, processor.register(register), register == c[0] ? c[2] : kept);
                }
            }
        }
    }

    /** Promise 9: "6: M as it would be read". */
    private static void readsMWithoutAChange() {
        PortProcessor processor = new PortProcessor();
        processor.load(1023, 0x66, 1);
        int[][] cases = {{0, 0}, {1022, 0}, {1023, 0x66}, {1024, 255}, {2047, 255}, {65535, 255}};
        for (int[] c : cases) {
            Pairs.set(processor, Pairs.HL, c[0]);
            Check.same("M at " + c[0], processor.register(6), c[1]);
            Check.same("M at " + c[0] + " again", processor.register(6), c[1]);
            Check.same("HL", Pairs.of(processor, Pairs.HL), c[0]);
        }
        Check.same("states()", processor.states(), 0);
    }

    private static void questionsChangeNothing() {
        Whole.Maker before = () -> {
            PortProcessor processor = Check.with(0xFB, 0x00, 0x76);
            processor.interrupt(1);
            processor.run(1);
            return processor;
        };
        Whole.Maker asked = () -> {
            PortProcessor processor = before.make();
            for (int register = 0; register <= 10; register++) {
                processor.register(register);
            }
            processor.is(0);
            processor.is(1);
            processor.is(2);
            processor.out(0);
            processor.peek(0);
            processor.states();
            return processor;
        };
        Whole.same("after questions", asked, before);
    }

    /** Promise 12: only steps take states. */
    private static void noStatesAtFirst() {
        PortProcessor processor = new PortProcessor();
        Check.same("states()", processor.states(), 0);
        processor.load(0, 0x76, 1);
        processor.start(0);
        processor.interrupt(0);
        processor.bring(0, 1);
        processor.set(9, 5);
        Check.same("states() before the first step", processor.states(), 0);
        processor.run(1);
        Check.same("states()", processor.states(), 7);
    }

    /** "An object is used for at most 512 calls after it has been made". */
    private static void answersTheLastCallToo() {
        PortProcessor processor = new PortProcessor();
        for (int call = 1; call < CALLS; call++) {
            processor.load(call, call, 1);
        }
        Check.same("peek(511), the 512th call", processor.peek(511), 255);
        PortProcessor refusing = new PortProcessor();
        for (int call = 1; call < CALLS; call++) {
            Check.refused("run(0)", () -> refusing.run(0));
        }
        Check.same("run(1), the 512th call", refusing.run(1), 1);
    }

    /** Promise 12: the dearest instruction takes 18 states, and 500 of them are a run. */
    private static void countsTheMostStates() {
        PortProcessor processor = new PortProcessor();
        int calls = 0;
        for (int address = 0; address < 1024; address += 8) {
            processor.load(address, 0xE3E3E3E3E3E3E3E3L, 8);
            calls++;
        }
        // What the stack holds out there is lost, so that the program stays as it is.
        processor.set(9, 40000);
        calls++;
        long due = 0;
        int pc = 0;
        while (calls < CALLS - 1) {
            Check.same("run(500)", processor.run(500), 500);
            calls++;
            for (int i = 0; i < 500; i++) {
                due += pc < 1024 ? 18 : 11;
                pc = pc < 1024 ? pc + 1 : 0x38;
            }
        }
        Check.same("states(), the 512th call", processor.states(), due);
    }
}
