/** The instructions that move, jump, call and use the stack, with the edges of memory and of addresses. */
public final class InstructionTest {
    public static void main(String[] args) {
        movesBetweenAllRegisters();
        fillsRegistersAndPairs();
        countsPairs();
        addsPairs();
        storesAndFetches();
        storesAndFetchesAtTheEdges();
        changesM();
        jumpsCallsAndReturns();
        callsToFixedPlaces();
        pushesAndPops();
        usesTheStackAtTheEdges();
        exchanges();
        wrapsTheProgramCounter();
        doesNothing();
        Check.finish();
    }

    private static void movesBetweenAllRegisters() {
        for (int code = 0x40; code < 0x80; code++) {
            int target = code >> 3 & 7;
            int source = code & 7;
            if (code == 0x76) {
                continue;
            }
            PortProcessor processor = Check.with(code);
            int[] values = {10, 11, 12, 13, 1, 0x80, 16, 17};
            for (int register = 0; register < 8; register++) {
                if (register != 6) {
                    processor.set(register, values[register]);
                }
            }
            processor.set(8, 0xD5);
            processor.load(0x180, 16, 1);
            processor.run(1);
            String name = Integer.toHexString(code);
            if (target == 6) {
                Check.same(name + " into M", processor.peek(0x180), values[source]);
            } else {
                Check.same(name, processor.register(target), values[source]);
            }
            Check.same(name + ": flags", processor.register(8), 0xD7);
        }
    }

    private static void fillsRegistersAndPairs() {
        for (int register = 0; register < 8; register++) {
            PortProcessor processor = Check.with(0x06 + 8 * register, 200);
            processor.set(4, 2);
            processor.run(1);
            Check.same("register " + register + " filled", register == 6 ? processor.peek(512) : processor.register(register), 200);
            Check.same("PC", processor.register(10), 2);
        }
        for (int pair = 0; pair < 4; pair++) {
            PortProcessor processor = Check.with(0x01 + 16 * pair, 0xCD, 0xAB);
            processor.run(1);
            Check.same("pair " + pair + " filled", Pairs.of(processor, pair), 0xABCD);
            Check.same("PC", processor.register(10), 3);
        }
    }

    private static void countsPairs() {
        int[] befores = {0, 0xFF, 0x100, 0x1234, 0xFFFF};
        for (int pair = 0; pair < 4; pair++) {
            for (int before : befores) {
                PortProcessor processor = Check.with(0x03 + 16 * pair, 0x0B + 16 * pair, 0x0B + 16 * pair);
                Pairs.set(processor, pair, before);
                processor.set(8, 0xD5);
                processor.run(1);
                Check.same("pair " + pair + " risen from " + before, Pairs.of(processor, pair), before + 1 & 65535);
                processor.run(2);
                Check.same("pair " + pair + " fallen to before " + before, Pairs.of(processor, pair), before - 1 & 65535);
                Check.same("flags", processor.register(8), 0xD7);
            }
        }
    }

    private static void addsPairs() {
        int[][] cases = {{0x1234, 0x1111, 0x2345, 0}, {0xFFFF, 1, 0, 1}, {0x8000, 0x8000, 0, 1}, {0xFFFE, 1, 0xFFFF, 0}};
        int[] codes = {0x09, 0x19, 0x39};
        int[] pairs = {0, 1, 3};
        for (int i = 0; i < 3; i++) {
            for (int[] c : cases) {
                PortProcessor processor = Check.with(codes[i]);
                Pairs.set(processor, 2, c[0]);
                Pairs.set(processor, pairs[i], c[1]);
                processor.set(8, 0xD4 | 1 - c[3]);
                processor.run(1);
                Check.same("HL", Pairs.of(processor, 2), c[2]);
                Check.same("flags", processor.register(8), 0xD6 | c[3]);
                Check.same("the pair", Pairs.of(processor, pairs[i]), c[1]);
            }
        }
        PortProcessor processor = Check.with(0x29);
        Pairs.set(processor, 2, 0x8101);
        processor.run(1);
        Check.same("HL twice", Pairs.of(processor, 2), 0x0202);
        Check.same("flags", processor.register(8), 3);
    }

    private static void storesAndFetches() {
        PortProcessor processor = Check.with(0x02, 0x12, 0x32, 0x02, 0x03, 0x22, 0x03, 0x03);
        Pairs.set(processor, 0, 0x300);
        Pairs.set(processor, 1, 0x301);
        Pairs.set(processor, 2, 0xBBAA);
        processor.set(7, 99);
        processor.run(4);
        int[] due = {99, 99, 99, 0xAA, 0xBB, 0};
        for (int i = 0; i < due.length; i++) {
            Check.same("peek " + i, processor.peek(0x300 + i), due[i]);
        }
        PortProcessor fetcher = Check.with(0x0A, 0x1A, 0x3A, 0x02, 0x03, 0x2A, 0x03, 0x03);
        Pairs.set(fetcher, 0, 0x300);
        Pairs.set(fetcher, 1, 0x301);
        Check.place(fetcher, 0x300, 1, 2, 3, 4, 5);
        for (int i = 1; i <= 3; i++) {
            fetcher.run(1);
            Check.same("A", fetcher.register(7), i);
        }
        fetcher.run(1);
        Check.same("HL", Pairs.of(fetcher, 2), 0x0504);
    }

    private static void storesAndFetchesAtTheEdges() {
        PortProcessor processor = Check.with(0x22, 0xFF, 0x03, 0x2A, 0xFF, 0x03, 0x32, 0x00, 0x04, 0x3A, 0x00, 0x04);
        Pairs.set(processor, 2, 0x1234);
        processor.run(2);
        Check.same("peek(1023)", processor.peek(1023), 0x34);
        Check.same("HL from 3FF and 400", Pairs.of(processor, 2), 0xFF34);
        processor.set(7, 1);
        processor.run(2);
        Check.same("A from 400", processor.register(7), 255);
        Check.same("peek(0)", processor.peek(0), 0x22);

        PortProcessor wrapping = Check.with(0x2A, 0xFF, 0xFF, 0x22, 0xFF, 0xFF);
        wrapping.run(1);
        Check.same("HL from FFFF and 0", Pairs.of(wrapping, 2), 0x2AFF);
        wrapping.set(4, 0x77);
        wrapping.run(1);
        Check.same("H come to 0", wrapping.peek(0), 0x77);
    }

    private static void changesM() {
        PortProcessor processor = Check.with(0x34, 0x34, 0x35, 0x86, 0xBE);
        Pairs.set(processor, 2, 0x200);
        processor.load(0x200, 254, 1);
        processor.run(1);
        Check.same("M risen", processor.peek(0x200), 255);
        processor.run(1);
        Check.same("M risen", processor.peek(0x200), 0);
        Check.same("flags", processor.register(8), 0x56);
        processor.run(1);
        Check.same("M fallen", processor.peek(0x200), 255);
        Check.same("flags", processor.register(8), 0x86);
        processor.set(7, 2);
        processor.run(1);
        Check.same("A + M", processor.register(7), 1);
        processor.run(1);
        Check.same("A after the comparison", processor.register(7), 1);
        Check.same("flags", processor.register(8), 0x03);

        PortProcessor outside = Check.with(0x34, 0x36, 7, 0x7E);
        Pairs.set(outside, 2, 0x400);
        outside.run(1);
        Check.same("flags of 255 risen", outside.register(8), 0x56);
        Check.same("M outside", outside.register(6), 255);
        outside.run(2);
        Check.same("A from M outside", outside.register(7), 255);
    }

    private static void jumpsCallsAndReturns() {
        int[] flagBits = {0x40, 0x01, 0x04, 0x80};
        for (int condition = 0; condition < 8; condition++) {
            int bit = flagBits[condition / 2];
            int[] flagBytes = {0, bit, 0xD5 & ~bit, 0xD5};
            for (int flags : flagBytes) {
                boolean met = (flags & bit) != 0 == (condition % 2 == 1);
                branches(0xC2 + 8 * condition, flags, met ? 0x234 : 3, 900, 10);
                branches(0xC4 + 8 * condition, flags, met ? 0x234 : 3, met ? 898 : 900, met ? 17 : 11);
                branches(0xC0 + 8 * condition, flags, met ? 0x156 : 1, met ? 902 : 900, met ? 11 : 5);
            }
        }
        int[] flagBytes = {0, 0xD5};
        for (int flags : flagBytes) {
            branches(0xC3, flags, 0x234, 900, 10);
            branches(0xCB, flags, 0x234, 900, 10);
            branches(0xCD, flags, 0x234, 898, 17);
            branches(0xDD, flags, 0x234, 898, 17);
            branches(0xED, flags, 0x234, 898, 17);
            branches(0xFD, flags, 0x234, 898, 17);
            branches(0xC9, flags, 0x156, 902, 10);
            branches(0xD9, flags, 0x156, 902, 10);
        }
    }

    private static void branches(int code, int flags, int pc, int sp, int states) {
        PortProcessor processor = Check.with(code, 0x34, 0x02);
        Check.place(processor, 900, 0x56, 0x01);
        processor.set(8, flags);
        processor.set(9, 900);
        processor.run(1);
        String name = Integer.toHexString(code) + " with flags " + flags;
        Check.same(name + ": PC", processor.register(10), pc);
        Check.same(name + ": SP", processor.register(9), sp);
        Check.same(name + ": states", processor.states(), states);
        Check.same(name + ": flags", processor.register(8), flags | 2);
        Check.same(name + ": pushed low", processor.peek(898), sp == 898 ? 3 : 0);
        Check.same(name + ": pushed high", processor.peek(899), 0);
    }

    private static void callsToFixedPlaces() {
        for (int k = 0; k < 8; k++) {
            PortProcessor processor = new PortProcessor();
            processor.load(0x2FE, 0xC7 + 8 * k, 1);
            processor.start(0x2FE);
            processor.set(9, 900);
            processor.run(1);
            Check.same("PC", processor.register(10), 8 * k);
            Check.same("pushed high", processor.peek(899), 0x02);
            Check.same("pushed low", processor.peek(898), 0xFF);
        }
    }

    private static void pushesAndPops() {
        for (int pair = 0; pair < 3; pair++) {
            PortProcessor processor = Check.with(0xC5 + 16 * pair);
            processor.set(9, 900);
            Pairs.set(processor, pair, 0x8765);
            processor.run(1);
            Check.same("SP", processor.register(9), 898);
            Check.same("pushed high", processor.peek(899), 0x87);
            Check.same("pushed low", processor.peek(898), 0x65);
            PortProcessor popper = Check.with(0xC1 + 16 * pair);
            popper.set(9, 500);
            Check.place(popper, 500, 0x21, 0x43);
            popper.run(1);
            Check.same("popped", Pairs.of(popper, pair), 0x4321);
            Check.same("SP", popper.register(9), 502);
        }
        for (int flags = 0; flags < 256; flags++) {
            PortProcessor processor = Check.with(0xF1, 0xF5);
            processor.set(9, 900);
            Check.place(processor, 900, flags, 0x5A);
            processor.run(1);
            Check.same("A", processor.register(7), 0x5A);
            Check.same("flags", processor.register(8), flags & 0xD5 | 2);
            processor.run(1);
            Check.same("the flags' byte", processor.peek(900), flags & 0xD5 | 2);
            Check.same("A's byte", processor.peek(901), 0x5A);
        }
    }

    private static void usesTheStackAtTheEdges() {
        PortProcessor processor = Check.with(0xC5, 0xD1);
        Pairs.set(processor, 0, 0x1234);
        processor.set(9, 1);
        processor.run(1);
        Check.same("SP fallen below 0", processor.register(9), 65535);
        Check.same("the higher byte at 0", processor.peek(0), 0x12);
        processor.run(1);
        Check.same("popped at FFFF and 0", Pairs.of(processor, 1), 0x12FF);
        Check.same("SP", processor.register(9), 1);

        PortProcessor top = Check.with(0xC5, 0xD1);
        Pairs.set(top, 0, 0x1234);
        top.set(9, 1025);
        top.run(1);
        Check.same("the lower byte at 1023", top.peek(1023), 0x34);
        top.run(1);
        Check.same("popped at 1023 and 1024", Pairs.of(top, 1), 0xFF34);

        PortProcessor first = Check.with(0xCD, 0x00, 0x01);
        first.run(1);
        Check.same("SP from 0", first.register(9), 65534);
        Check.same("PC", first.register(10), 0x100);
    }

    private static void exchanges() {
        PortProcessor processor = Check.with(0xE3, 0xEB, 0xF9, 0xE9);
        Pairs.set(processor, 2, 0x1234);
        Pairs.set(processor, 1, 0x0155);
        processor.set(9, 900);
        Check.place(processor, 900, 0x78, 0x56);
        processor.run(1);
        Check.same("HL", Pairs.of(processor, 2), 0x5678);
        Check.same("SP", processor.register(9), 900);
        Check.same("the byte at SP", processor.peek(900), 0x34);
        Check.same("the byte at SP + 1", processor.peek(901), 0x12);
        processor.run(1);
        Check.same("HL", Pairs.of(processor, 2), 0x0155);
        Check.same("DE", Pairs.of(processor, 1), 0x5678);
        processor.run(2);
        Check.same("SP", processor.register(9), 0x0155);
        Check.same("PC", processor.register(10), 0x0155);
        Check.same("HL", Pairs.of(processor, 2), 0x0155);

        PortProcessor edge = Check.with(0xE3);
        Pairs.set(edge, 2, 0x1234);
        edge.set(9, 1023);
        edge.run(1);
        Check.same("HL", Pairs.of(edge, 2), 0xFF00);
        Check.same("peek(1023)", edge.peek(1023), 0x34);

        PortProcessor wrapping = Check.with(0xE3);
        Pairs.set(wrapping, 2, 0x1234);
        wrapping.set(9, 65535);
        wrapping.run(1);
        Check.same("HL", Pairs.of(wrapping, 2), 0xE3FF);
        Check.same("peek(0)", wrapping.peek(0), 0x12);
    }

    private static void wrapsTheProgramCounter() {
        // At 1023 a byte of the memory, behind it 255 and 255.
        PortProcessor processor = new PortProcessor();
        processor.load(1023, 0x01, 1);
        processor.start(1023);
        processor.run(1);
        Check.same("BC", Pairs.of(processor, 0), 0xFFFF);
        Check.same("PC", processor.register(10), 1026);

        // 255 at 65535 calls to 38; what it pushes is the address behind it, 0.
        PortProcessor last = new PortProcessor();
        last.start(65535);
        last.set(9, 900);
        Check.place(last, 898, 1, 1);
        last.run(1);
        Check.same("pushed", last.peek(898) + last.peek(899), 0);
    }

    private static void doesNothing() {
        for (int code = 0; code <= 0x38; code += 8) {
            PortProcessor processor = Check.with(code, code, code);
            for (int register = 0; register < 10; register++) {
                if (register != 6) {
                    processor.set(register, 3);
                }
            }
            processor.run(1);
            for (int register = 0; register < 8; register++) {
                Check.same("register " + register, processor.register(register), register == 6 ? 0 : 3);
            }
            Check.same("SP", processor.register(9), 3);
            Check.same("PC", processor.register(10), 1);
        }
    }
}
