/** Promises 9 and 10: register and set. */
public final class RegisterTest {
    public static void main(String[] args) {
        setsWhatCanBeSet();
        setsOnlyFiveFlags();
        readsM();
        tellsWhatAnInstructionDid();
        refusesWrongRegisters();
        refusesWrongValues();
        Check.finish();
    }

    private static void setsWhatCanBeSet() {
        int[] byteRegisters = {0, 1, 2, 3, 4, 5, 7};
        PortProcessor processor = new PortProcessor();
        for (int register : byteRegisters) {
            processor.set(register, 100 + register);
        }
        processor.set(9, 12345);
        for (int register : byteRegisters) {
            Check.same("register(" + register + ")", processor.register(register), 100 + register);
            processor.set(register, 255);
            Check.same("register(" + register + ")", processor.register(register), 255);
            processor.set(register, 0);
            Check.same("register(" + register + ")", processor.register(register), 0);
        }
        Check.same("flags", processor.register(8), 2);
        Check.same("SP", processor.register(9), 12345);
        processor.set(9, 65535);
        Check.same("SP", processor.register(9), 65535);
        processor.set(9, 0);
        Check.same("SP", processor.register(9), 0);
        Check.same("PC", processor.register(10), 0);
    }

    private static void setsOnlyFiveFlags() {
        for (int value = 0; value < 256; value++) {
            PortProcessor processor = new PortProcessor();
            processor.set(8, value);
            Check.same("flags set to " + value, processor.register(8), value & 0xD5 | 2);
        }
    }

    private static void readsM() {
        PortProcessor processor = new PortProcessor();
        processor.load(0x3FF, 0xAB, 1);
        processor.load(0x0FF, 0xCD, 1);
        processor.set(4, 3);
        processor.set(5, 0xFF);
        Check.same("M at 3FF", processor.register(6), 0xAB);
        processor.set(4, 0);
        Check.same("M at FF", processor.register(6), 0xCD);
        processor.set(4, 4);
        processor.set(5, 0);
        Check.same("M at 400", processor.register(6), 255);
        processor.set(4, 255);
        processor.set(5, 255);
        Check.same("M at FFFF", processor.register(6), 255);
    }

    private static void tellsWhatAnInstructionDid() {
        PortProcessor processor = Check.with(0x01, 0x34, 0x12, 0x31, 0x78, 0x56, 0xC3, 0xBC, 0x9A);
        processor.run(3);
        Check.same("B", processor.register(0), 0x12);
        Check.same("C", processor.register(1), 0x34);
        Check.same("SP", processor.register(9), 0x5678);
        Check.same("PC", processor.register(10), 0x9ABC);
    }

    private static void refusesWrongRegisters() {
        PortProcessor processor = new PortProcessor();
        int[] none = {-1, 11, Integer.MIN_VALUE, Integer.MAX_VALUE};
        for (int register : none) {
            Check.refused("register(" + register + ")", () -> processor.register(register));
            Check.refused("set(" + register + ", 0)", () -> processor.set(register, 0));
        }
        Check.refused("set(6, 0)", () -> processor.set(6, 0));
        Check.refused("set(10, 0)", () -> processor.set(10, 0));
        Check.same("M", processor.register(6), 0);
        Check.same("PC", processor.register(10), 0);
    }

    private static void refusesWrongValues() {
        PortProcessor processor = new PortProcessor();
        int[] noBytes = {-1, 256, 65535, Integer.MIN_VALUE, Integer.MAX_VALUE};
        for (int register = 0; register <= 8; register++) {
            int which = register;
            for (int value : noBytes) {
                Check.refused("set(" + register + ", " + value + ")", () -> processor.set(which, value));
            }
        }
        int[] noAddresses = {-1, 65536, Integer.MIN_VALUE, Integer.MAX_VALUE};
        for (int value : noAddresses) {
            Check.refused("set(9, " + value + ")", () -> processor.set(9, value));
        }
        for (int register = 0; register <= 10; register++) {
            Check.same("register(" + register + ")", processor.register(register), register == 8 ? 2 : 0);
        }
    }
}
