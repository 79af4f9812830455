/**
 * "MEMORY has the bytes 0 .. 1023; to read elsewhere gives 255, to write there does nothing": on both sides of both
 * ends, in every way in which an instruction or an interrupt reads or writes.
 */
public final class EdgeOfMemoryTest {
    // Away from the ends, so that no way of reading or writing meets its own program.
    private static final int PROGRAM = 0x200;
    private static final int INSIDE = 0x5A;
    private static final int WRITTEN = 0xC3;
    private static final int OTHER = 0x3C;
    private static final int[] ADDRESSES = {0, 1, 1022, 1023, 1024, 1025, 2047, 2048, 32768, 65534, 65535};

    /** Reads the byte at an address and answers it. */
    private interface Reader {
        int read(PortProcessor processor, int address);
    }

    /** Writes WRITTEN to an address, and OTHER beside it if the instruction writes two bytes. */
    private interface Writer {
        void write(PortProcessor processor, int address);
    }

    public static void main(String[] args) {
        readsM();
        readsByPairs();
        readsByFollowingAddress();
        readsTheStack();
        readsInstructions();
        writesM();
        writesByPairs();
        writesByFollowingAddress();
        writesTheStack();
        changesMWhereNothingIs();
        Check.finish();
    }

    private static void readsM() {
        reads("register(6)", (p, address) -> {
            Pairs.set(p, Pairs.HL, address);
            return p.register(6);
        });
        for (int target = 0; target < 8; target++) {
            int d = target;
            if (d != 6) {
                reads("d becomes M, d " + d, (p, address) -> {
                    Pairs.set(p, Pairs.HL, address);
                    done(p, 0x46 + 8 * d);
                    return p.register(d);
                });
            }
        }
        reads("A + M", (p, address) -> {
            Pairs.set(p, Pairs.HL, address);
            done(p, 0x86);
            return p.register(7);
        });
        reads("A | M", (p, address) -> {
            Pairs.set(p, Pairs.HL, address);
            done(p, 0xB6);
            return p.register(7);
        });
    }

    private static void readsByPairs() {
        for (int pair = 0; pair < 2; pair++) {
            int which = pair;
            reads("A becomes the byte at pair " + pair, (p, address) -> {
                Pairs.set(p, which, address);
                done(p, 0x0A + 16 * which);
                return p.register(7);
            });
        }
    }

    private static void readsByFollowingAddress() {
        reads("3A", (p, address) -> {
            done(p, 0x3A, address % 256, address / 256);
            return p.register(7);
        });
        reads("2A, L", (p, address) -> {
            done(p, 0x2A, address % 256, address / 256);
            return p.register(5);
        });
        reads("2A, H", (p, address) -> {
            int before = before(address);
            done(p, 0x2A, before % 256, before / 256);
            return p.register(4);
        });
    }

    private static void readsTheStack() {
        int[] lower = {1, 3, 5};
        int[] higher = {0, 2, 4, 7};
        for (int pair = 0; pair < 4; pair++) {
            int which = pair;
            reads("popped higher byte of " + pair, (p, address) -> {
                p.set(9, before(address));
                done(p, 0xC1 + 16 * which);
                return p.register(higher[which]);
            });
            // Of the flags' byte only five bits count, so it is looked at below.
            if (pair < 3) {
                reads("popped lower byte of " + pair, (p, address) -> {
                    p.set(9, address);
                    done(p, 0xC1 + 16 * which);
                    return p.register(lower[which]);
                });
            }
        }
        popsFlagsWhereNothingIs();
        int[] returns = {0xC0, 0xC9, 0xD9};
        for (int code : returns) {
            reads("popped PC, lower byte, by " + code, (p, address) -> {
                p.set(9, address);
                done(p, code);
                return p.register(10) % 256;
            });
            reads("popped PC, higher byte, by " + code, (p, address) -> {
                p.set(9, before(address));
                done(p, code);
                return p.register(10) / 256;
            });
        }
        reads("E3, L", (p, address) -> {
            p.set(9, address);
            done(p, 0xE3);
            return p.register(5);
        });
        reads("E3, H", (p, address) -> {
            p.set(9, before(address));
            done(p, 0xE3);
            return p.register(4);
        });
    }

    private static void popsFlagsWhereNothingIs() {
        PortProcessor processor = prepared();
        processor.set(9, 1024);
        done(processor, 0xF1);
        Check.same("flags popped at 1024", processor.register(8), 0xD7);
        PortProcessor last = prepared();
        last.set(9, 1023);
        done(last, 0xF1);
        Check.same("flags popped at 1023", last.register(8), 0x02);
    }

    /** The bytes of an instruction are read like any others: the one at 1023 is the last that the memory gives. */
    private static void readsInstructions() {
        PortProcessor one = new PortProcessor();
        one.load(1023, 0x3C, 1);
        one.start(1023);
        one.set(9, 600);
        Check.same("run(2) over the end", one.run(2), 2);
        Check.same("A: 3C at 1023 was done", one.register(7), 1);
        Check.same("PC: FF at 1024 was done", one.register(10), 0x38);
        Check.same("PC pushed at 1024", one.peek(599) * 256 + one.peek(598), 1025);

        PortProcessor n = new PortProcessor();
        n.load(1022, 0x3E5A, 2);
        n.start(1022);
        n.run(1);
        Check.same("n at 1023", n.register(7), INSIDE);
        Check.same("PC", n.register(10), 1024);
        PortProcessor nOutside = new PortProcessor();
        nOutside.load(1023, 0x3E, 1);
        nOutside.start(1023);
        nOutside.run(1);
        Check.same("n at 1024", nOutside.register(7), 255);
        Check.same("PC", nOutside.register(10), 1025);

        int[] due = {0x5A5A, 0xFF5A, 0xFFFF};
        for (int outside = 0; outside < 3; outside++) {
            PortProcessor nn = new PortProcessor();
            nn.load(1018, 0x5A5A5A5A5A5AL, 6);
            nn.load(1021 + outside, 0x11, 1);
            nn.start(1021 + outside);
            nn.run(1);
            Check.same("nn with " + outside + " of its bytes outside", Pairs.of(nn, Pairs.DE), due[outside]);
            Check.same("PC", nn.register(10), 1024 + outside);
        }
    }

    private static void writesM() {
        for (int source = 0; source < 8; source++) {
            int s = source;
            if (s < 4 || s == 7) {
                writes("M becomes s, s " + s, 0, (p, address) -> {
                    Pairs.set(p, Pairs.HL, address);
                    p.set(s, WRITTEN);
                    done(p, 0x70 + s);
                });
            }
        }
        writes("M becomes n", 0, (p, address) -> {
            Pairs.set(p, Pairs.HL, address);
            done(p, 0x36, WRITTEN);
        });
    }

    private static void writesByPairs() {
        for (int pair = 0; pair < 2; pair++) {
            int which = pair;
            writes("A comes to the byte at pair " + pair, 0, (p, address) -> {
                Pairs.set(p, which, address);
                p.set(7, WRITTEN);
                done(p, 0x02 + 16 * which);
            });
        }
    }

    private static void writesByFollowingAddress() {
        writes("32", 0, (p, address) -> {
            p.set(7, WRITTEN);
            done(p, 0x32, address % 256, address / 256);
        });
        writes("22, L", 1, (p, address) -> {
            Pairs.set(p, Pairs.HL, OTHER * 256 + WRITTEN);
            done(p, 0x22, address % 256, address / 256);
        });
        writes("22, H", -1, (p, address) -> {
            int before = before(address);
            Pairs.set(p, Pairs.HL, WRITTEN * 256 + OTHER);
            done(p, 0x22, before % 256, before / 256);
        });
    }

    private static void writesTheStack() {
        for (int pair = 0; pair < 3; pair++) {
            int which = pair;
            writes("pushed lower byte of " + pair, 1, (p, address) -> {
                Pairs.set(p, which, OTHER * 256 + WRITTEN);
                p.set(9, address + 2 & 65535);
                done(p, 0xC5 + 16 * which);
            });
            writes("pushed higher byte of " + pair, -1, (p, address) -> {
                Pairs.set(p, which, WRITTEN * 256 + OTHER);
                p.set(9, address + 1 & 65535);
                done(p, 0xC5 + 16 * which);
            });
        }
        writes("E3, L", 1, (p, address) -> {
            Pairs.set(p, Pairs.HL, OTHER * 256 + WRITTEN);
            p.set(9, address);
            done(p, 0xE3);
        });
        writes("E3, H", -1, (p, address) -> {
            Pairs.set(p, Pairs.HL, WRITTEN * 256 + OTHER);
            p.set(9, before(address));
            done(p, 0xE3);
        });
        pushesWithPc("CD", 3, 0xCD);
        pushesWithPc("C4", 3, 0xC4);
        pushesWithPc("C7", 1, 0xC7);
        pushesThePcOfAnInterrupt();
    }

    private static void pushesWithPc(String name, int length, int code) {
        for (int stack : ADDRESSES) {
            Whole.Maker made = () -> {
                PortProcessor processor = prepared();
                processor.set(9, stack);
                done(processor, code, 0x77, 0x01);
                return processor;
            };
            int[] due = Whole.memoryOf(() -> withProgram(code, 0x77, 0x01));
            put(due, stack - 1 & 65535, PROGRAM + length >> 8);
            put(due, stack - 2 & 65535, PROGRAM + length & 255);
            Whole.sameMemory(name + " with SP " + stack, Whole.memoryOf(made), due);
            Check.same(name + ": SP", made.make().register(9), stack - 2 & 65535);
        }
    }

    private static void pushesThePcOfAnInterrupt() {
        for (int stack : ADDRESSES) {
            Whole.Maker made = () -> {
                PortProcessor processor = prepared();
                processor.set(9, stack);
                processor.interrupt(6);
                done(processor, 0xFB, 0x00);
                processor.run(2);
                return processor;
            };
            int[] due = Whole.memoryOf(() -> withProgram(0xFB, 0x00));
            put(due, stack - 1 & 65535, PROGRAM + 2 >> 8);
            put(due, stack - 2 & 65535, PROGRAM + 2 & 255);
            Whole.sameMemory("an interrupt with SP " + stack, Whole.memoryOf(made), due);
            Check.same("an interrupt: SP", made.make().register(9), stack - 2 & 65535);
            Check.same("an interrupt: PC", made.make().register(10), 48);
        }
    }

    /** What rises or falls where no memory is was 255, gives its flags, and is 255 still. */
    private static void changesMWhereNothingIs() {
        int[] outside = {1024, 65535};
        for (int address : outside) {
            PortProcessor risen = prepared();
            Pairs.set(risen, Pairs.HL, address);
            done(risen, 0x34);
            Check.same("flags of 255 risen to 0", risen.register(8), 0x56);
            Check.same("M at " + address, risen.register(6), 255);
            PortProcessor fallen = prepared();
            Pairs.set(fallen, Pairs.HL, address);
            done(fallen, 0x35);
            Check.same("flags of 255 fallen to 254", fallen.register(8), 0x92);
            Check.same("M at " + address, fallen.register(6), 255);
        }
        PortProcessor inside = prepared();
        Pairs.set(inside, Pairs.HL, 1023);
        done(inside, 0x34, 0x34, 0x35);
        inside.run(2);
        Check.same("M at 1023", inside.peek(1023), 1);
    }

    private static void reads(String way, Reader reader) {
        for (int address : ADDRESSES) {
            // All other bytes are 0, so that a byte beside the right one is told from it.
            PortProcessor processor = prepared();
            boolean inside = address < Whole.MEMORY_SIZE;
            if (inside) {
                processor.load(address, INSIDE, 1);
            }
            int got = reader.read(processor, address);
            Check.same(way + " at " + address, got, inside ? INSIDE : 255);
        }
    }

    private static void writes(String way, int otherAt, Writer writer) {
        for (int address : ADDRESSES) {
            Whole.Maker made = () -> {
                PortProcessor processor = prepared();
                writer.write(processor, address);
                return processor;
            };
            int[] got = Whole.memoryOf(made);
            int[] due = new int[Whole.MEMORY_SIZE];
            put(due, address, WRITTEN);
            if (otherAt != 0) {
                put(due, address + otherAt & 65535, OTHER);
            }
            // The program is whatever this way of writing needed.
            System.arraycopy(got, PROGRAM, due, PROGRAM, 3);
            Whole.sameMemory(way + " at " + address, got, due);
        }
    }

    private static void put(int[] memory, int address, int value) {
        if (address < memory.length) {
            memory[address] = value;
        }
    }

    private static int before(int address) {
        return address - 1 & 65535;
    }

    private static PortProcessor prepared() {
        PortProcessor processor = new PortProcessor();
        processor.start(PROGRAM);
        return processor;
    }

    private static PortProcessor withProgram(int... program) {
        PortProcessor processor = prepared();
        Check.place(processor, PROGRAM, program);
        return processor;
    }

    /** Does the one instruction that is given; more bytes than it has lie behind it. */
    private static void done(PortProcessor processor, int... instruction) {
        Check.place(processor, PROGRAM, instruction);
        Check.same("run(1)", processor.run(1), 1);
    }
}
