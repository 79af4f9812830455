/** "ADDRESSES 0 .. 65535, sums of them modulo 65536": PC, SP, the pairs, and an address with the one behind it. */
public final class EdgeOfAddressesTest {
    public static void main(String[] args) {
        pairsRise();
        pairsFall();
        pairsAreAdded();
        pushesFromEveryEdge();
        popsFromEveryEdge();
        callsFromEveryEdge();
        returnsFromEveryEdge();
        interruptsFromEveryEdge();
        storesBehindTheLastAddress();
        fetchesBehindTheLastAddress();
        exchangesBehindTheLastAddress();
        programCounterGoesBehindTheLastAddress();
        goesToTheFirstAndTheLastAddress();
        stackPointerBecomesTheLastAddress();
        Check.finish();
    }

    /** "03 + 10 p: p rises by 1". */
    private static void pairsRise() {
        int[][] cases = {
            {0, 1}, {254, 255}, {255, 256}, {256, 257}, {0x7FFF, 0x8000}, {0xFEFF, 0xFF00}, {65534, 65535}, {65535, 0},
        };
        for (int pair = 0; pair < 4; pair++) {
            for (int[] c : cases) {
                counts(0x03 + 16 * pair, pair, c[0], c[1]);
            }
        }
    }

    /** "0B + 10 p: falls". */
    private static void pairsFall() {
        int[][] cases = {
            {0, 65535}, {1, 0}, {255, 254}, {256, 255}, {257, 256}, {0x8000, 0x7FFF}, {0xFF00, 0xFEFF}, {65535, 65534},
        };
        for (int pair = 0; pair < 4; pair++) {
            for (int[] c : cases) {
                counts(0x0B + 16 * pair, pair, c[0], c[1]);
            }
        }
    }

    private static void counts(int code, int pair, int before, int due) {
        int[] flagBytes = {0x02, 0xD7};
        for (int flags : flagBytes) {
            PortProcessor processor = Check.with(code);
            for (int other = 0; other < 4; other++) {
                Pairs.set(processor, other, 0x1111);
            }
            Pairs.set(processor, pair, before);
            processor.set(8, flags);
            processor.run(1);
            for (int other = 0; other < 4; other++) {
                String what = Integer.toHexString(code) + " of " + before + ": pair " + other;
                Check.same(what, Pairs.of(processor, other), other == pair ? due : 0x1111);
            }
            Check.same("flags", processor.register(8), flags);
        }
    }

    /** "HL becomes HL + p, C the carry": the sum is 65535 at most without a carry. */
    private static void pairsAreAdded() {
        int[][] cases = {
            {0, 0, 0, 0}, {65535, 0, 65535, 0}, {0, 65535, 65535, 0}, {65534, 1, 65535, 0}, {65535, 1, 0, 1},
            {1, 65535, 0, 1}, {65535, 65535, 65534, 1}, {0x7FFF, 0x8000, 65535, 0}, {0x8000, 0x8000, 0, 1},
            {0x00FF, 0x0001, 0x0100, 0}, {0xFF00, 0x00FF, 65535, 0}, {0xFF01, 0x00FF, 0, 1},
        };
        int[] pairs = {Pairs.BC, Pairs.DE, Pairs.SP};
        for (int pair : pairs) {
            for (int[] c : cases) {
                adds(pair, c[0], c[1], c[2], c[3]);
            }
        }
        adds(Pairs.HL, 0x7FFF, 0x7FFF, 0xFFFE, 0);
        adds(Pairs.HL, 0x8000, 0x8000, 0, 1);
        adds(Pairs.HL, 0xFFFF, 0xFFFF, 0xFFFE, 1);
    }

    private static void adds(int pair, int hl, int p, int due, int carry) {
        int[] flagBytes = {0x02, 0xD7};
        for (int flags : flagBytes) {
            PortProcessor processor = Check.with(0x09 + 16 * pair);
            Pairs.set(processor, Pairs.HL, hl);
            Pairs.set(processor, pair, p);
            processor.set(8, flags);
            processor.run(1);
            String what = hl + " + " + p;
            Check.same(what, Pairs.of(processor, Pairs.HL), due);
            Check.same(what + ": only C changes", processor.register(8), flags & 0xFE | carry);
            if (pair != Pairs.HL) {
                Check.same(what + ": the pair stays", Pairs.of(processor, pair), p);
            }
        }
    }

    /** "SP falls by 1, the higher one comes to SP, SP falls by 1, the lower one comes to SP". */
    private static void pushesFromEveryEdge() {
        stackFalls("C5", false, 0xC5);
        stackFalls("D5", false, 0xD5);
        stackFalls("E5", false, 0xE5);
        stackFalls("F5", false, 0xF5);
        PortProcessor at0 = pushing(0);
        Check.same("nothing in the memory is pushed over from 0: 0", at0.peek(0), 0);
        Check.same("nothing in the memory is pushed over from 0: 1023", at0.peek(1023), 0);
        PortProcessor at1 = pushing(1);
        Check.same("the higher one at 0 from 1", at1.peek(0), 0x12);
        Check.same("1023 from 1", at1.peek(1023), 0);
        PortProcessor at2 = pushing(2);
        Check.same("the higher one at 1 from 2", at2.peek(1), 0x12);
        Check.same("the lower one at 0 from 2", at2.peek(0), 0x34);
    }

    private static PortProcessor pushing(int stack) {
        PortProcessor processor = new PortProcessor();
        processor.load(0x100, 0xC5, 1);
        processor.start(0x100);
        Pairs.set(processor, Pairs.BC, 0x1234);
        processor.set(9, stack);
        processor.run(1);
        return processor;
    }

    /** "to POP the other way round". */
    private static void popsFromEveryEdge() {
        stackRises("C1", 0xC1);
        stackRises("D1", 0xD1);
        stackRises("E1", 0xE1);
        stackRises("F1", 0xF1);
        int[][] cases = {{0, 0x3412}, {65535, 0x12FF}, {65534, 0xFFFF}, {1022, 0x7856}, {1023, 0xFF78}, {1024, 0xFFFF}};
        for (int[] c : cases) {
            PortProcessor processor = new PortProcessor();
            processor.load(0, 0x1234, 2);
            processor.load(1022, 0x5678, 2);
            processor.load(0x100, 0xD1, 1);
            processor.start(0x100);
            processor.set(9, c[0]);
            processor.run(1);
            Check.same("DE popped from " + c[0], Pairs.of(processor, Pairs.DE), c[1]);
        }
    }

    private static void callsFromEveryEdge() {
        stackFalls("CD", false, 0xCD);
        stackFalls("C4", false, 0xC4);
        stackFalls("C7", false, 0xC7);
        stackFalls("FF", false, 0xFF);
    }

    private static void returnsFromEveryEdge() {
        stackRises("C9", 0xC9);
        stackRises("C0", 0xC0);
        PortProcessor processor = Check.with(0x99, 0x03);
        processor.load(0x100, 0xC9, 1);
        processor.start(0x100);
        processor.set(9, 65535);
        processor.run(1);
        Check.same("PC popped from 65535 and 0", processor.register(10), 0x99FF);
        Check.same("SP", processor.register(9), 1);
    }

    private static void interruptsFromEveryEdge() {
        stackFalls("an interrupt", true, 0x00);
    }

    private static void stackFalls(String what, boolean interrupted, int code) {
        int[][] cases = {{0, 65534}, {1, 65535}, {2, 0}, {3, 1}, {256, 254}, {65535, 65533}};
        for (int[] c : cases) {
            PortProcessor processor = new PortProcessor();
            processor.load(0x100, 0xFBL << 8 | code, 2);
            processor.start(0x100);
            processor.set(9, c[0]);
            processor.run(2);
            if (interrupted) {
                processor.interrupt(1);
                processor.run(1);
            }
            Check.same(what + ": SP from " + c[0], processor.register(9), c[1]);
        }
    }

    private static void stackRises(String what, int code) {
        int[][] cases = {{65535, 1}, {65534, 0}, {65533, 65535}, {0, 2}, {254, 256}, {255, 257}};
        for (int[] c : cases) {
            PortProcessor processor = new PortProcessor();
            processor.load(0x200, code, 1);
            processor.start(0x200);
            processor.set(9, c[0]);
            processor.run(1);
            Check.same(what + ": SP from " + c[0], processor.register(9), c[1]);
        }
    }

    /** "22: L and H come to nn and nn + 1". */
    private static void storesBehindTheLastAddress() {
        PortProcessor processor = new PortProcessor();
        processor.load(0x100, 0x22FFFF, 3);
        processor.start(0x100);
        Pairs.set(processor, Pairs.HL, 0x1234);
        processor.run(1);
        Check.same("H comes to 0", processor.peek(0), 0x12);
        Check.same("1 stays", processor.peek(1), 0);
        Check.same("1023 stays", processor.peek(1023), 0);
    }

    /** "2A: they become these". */
    private static void fetchesBehindTheLastAddress() {
        PortProcessor processor = new PortProcessor();
        processor.load(0, 0x77, 1);
        processor.load(0x100, 0x2AFFFF, 3);
        processor.start(0x100);
        processor.run(1);
        Check.same("HL from 65535 and 0", Pairs.of(processor, Pairs.HL), 0x77FF);
    }

    /** "E3: L and H are exchanged with the bytes at SP and SP + 1". */
    private static void exchangesBehindTheLastAddress() {
        PortProcessor processor = new PortProcessor();
        processor.load(0, 0x7788, 2);
        processor.load(0x100, 0xE3, 1);
        processor.start(0x100);
        processor.set(9, 65535);
        Pairs.set(processor, Pairs.HL, 0x1234);
        processor.run(1);
        Check.same("HL from 65535 and 0", Pairs.of(processor, Pairs.HL), 0x77FF);
        Check.same("H comes to 0", processor.peek(0), 0x12);
        Check.same("1 stays", processor.peek(1), 0x88);
        Check.same("SP stays", processor.register(9), 65535);
    }

    /** "PC goes behind it, then it is done": only FF is read there, and it pushes the address behind itself. */
    private static void programCounterGoesBehindTheLastAddress() {
        int[][] cases = {{1023, 1024}, {1024, 1025}, {65534, 65535}, {65535, 0}};
        for (int[] c : cases) {
            PortProcessor processor = new PortProcessor();
            processor.load(1023, 0xFF, 1);
            processor.start(c[0]);
            processor.set(9, 600);
            Check.place(processor, 598, 0xAA, 0xAA);
            processor.run(1);
            Check.same("pushed by FF at " + c[0], processor.peek(599) * 256 + processor.peek(598), c[1]);
            Check.same("PC", processor.register(10), 0x38);
        }
        PortProcessor nothing = new PortProcessor();
        nothing.start(1023);
        nothing.run(1);
        Check.same("PC behind 1023", nothing.register(10), 1024);
    }

    private static void goesToTheFirstAndTheLastAddress() {
        int[] addresses = {0, 1023, 1024, 65535};
        for (int address : addresses) {
            goesTo(address, 0xC3);
            goesTo(address, 0xCB);
            goesTo(address, 0xC2);
            goesTo(address, 0xCD);
            goesTo(address, 0xC4);
            goesTo(address, 0xC9);
            goesTo(address, 0xC0);
            goesTo(address, 0xE9);
        }
    }

    private static void goesTo(int address, int code) {
        PortProcessor processor = new PortProcessor();
        Check.place(processor, 0x100, code, address % 256, address / 256);
        Check.place(processor, 0x200, address % 256, address / 256);
        processor.start(0x100);
        processor.set(9, 0x200);
        Pairs.set(processor, Pairs.HL, address);
        processor.run(1);
        Check.same("PC by " + Integer.toHexString(code), processor.register(10), address);
    }

    private static void stackPointerBecomesTheLastAddress() {
        int[] addresses = {0, 65535};
        for (int address : addresses) {
            PortProcessor filled = Check.with(0x31, address % 256, address / 256);
            filled.set(9, 0x1234);
            filled.run(1);
            Check.same("SP by 31", filled.register(9), address);
            PortProcessor copied = Check.with(0xF9);
            copied.set(9, 0x1234);
            Pairs.set(copied, Pairs.HL, address);
            copied.run(1);
            Check.same("SP by F9", copied.register(9), address);
        }
    }
}
