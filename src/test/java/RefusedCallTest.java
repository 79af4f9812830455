import java.util.function.Consumer;

/**
 * Each sentence of the document that begins with IllegalArgumentException: both sides of each bound, and that a
 * refused call changes nothing, whatever the processor was doing.
 */
public final class RefusedCallTest {
    private static final int LEAST = Integer.MIN_VALUE;
    private static final int MOST = Integer.MAX_VALUE;

    public static void main(String[] args) {
        loadRefusesANumberOfBytes();
        loadRefusesBytesBelowTheMemory();
        loadRefusesBytesAboveTheMemory();
        peekRefusesWhatIsNotInTheMemory();
        startRefusesWhatIsNoAddress();
        runRefusesANumberOfSteps();
        interruptRefusesANumber();
        bringRefusesAPort();
        bringRefusesAValue();
        outRefusesAPort();
        registerRefusesWhatIsNone();
        setRefusesARegister();
        setRefusesWhatIsNoByte();
        setRefusesFlagsThatAreNoByte();
        setRefusesAStackPointer();
        isRefusesAQuestion();
        Check.finish();
    }

    /** Promise 2: "n is not so" (1 .. 8). */
    private static void loadRefusesANumberOfBytes() {
        accepted("load(0, 1, 1)", p -> p.load(0, 1, 1));
        accepted("load(0, 1, 8)", p -> p.load(0, 1, 8));
        int[] wrong = {0, 9, -1, -8, 16, 256, 257, LEAST, MOST, LEAST + 8};
        for (int n : wrong) {
            refused("load(0, -1, " + n + ")", p -> p.load(0, -1L, n));
        }
        refused("load(-1, -1, 0): both are wrong", p -> p.load(-1, -1L, 0));
    }

    /** Promise 2: "not all of them are in the memory", at its lower end. */
    private static void loadRefusesBytesBelowTheMemory() {
        for (int bytes = 1; bytes <= 8; bytes++) {
            int n = bytes;
            accepted("load(0, -1, " + n + ")", p -> p.load(0, -1L, n));
            int[] wrong = {-1, -n, -8, -1024, LEAST, LEAST + 1};
            for (int address : wrong) {
                refused("load(" + address + ", -1, " + n + ")", p -> p.load(address, -1L, n));
            }
        }
    }

    /** Promise 2: "not all of them are in the memory", at its upper end. */
    private static void loadRefusesBytesAboveTheMemory() {
        for (int bytes = 1; bytes <= 8; bytes++) {
            int n = bytes;
            accepted("load(" + (1024 - n) + ", -1, " + n + ")", p -> p.load(1024 - n, -1L, n));
            int[] wrong = {1024 - n + 1, 1024, 1025, 2048, 65535, 65536, MOST - n, MOST - n + 1, MOST};
            for (int address : wrong) {
                refused("load(" + address + ", -1, " + n + ")", p -> p.load(address, -1L, n));
            }
        }
    }

    /** Promise 3: "it is not in the memory". */
    private static void peekRefusesWhatIsNotInTheMemory() {
        accepted("peek(0)", p -> p.peek(0));
        accepted("peek(1023)", p -> p.peek(1023));
        int[] wrong = {-1, 1024, 1025, 65535, 65536, LEAST, MOST};
        for (int address : wrong) {
            refused("peek(" + address + ")", p -> p.peek(address));
        }
    }

    /** Promise 4: "it is none" (an address, 0 .. 65535). */
    private static void startRefusesWhatIsNoAddress() {
        accepted("start(0)", p -> p.start(0));
        accepted("start(65535)", p -> p.start(65535));
        int[] wrong = {-1, 65536, 65537, -65536, LEAST, MOST};
        for (int address : wrong) {
            refused("start(" + address + ")", p -> p.start(address));
        }
    }

    /** Promise 5: "n is not so" (1 .. 500). */
    private static void runRefusesANumberOfSteps() {
        accepted("run(1)", p -> p.run(1));
        accepted("run(500)", p -> p.run(500));
        int[] wrong = {0, -1, 501, 502, 1000, LEAST, MOST};
        for (int n : wrong) {
            refused("run(" + n + ")", p -> p.run(n));
        }
    }

    /** Promise 6: "k is not 0 .. 7". */
    private static void interruptRefusesANumber() {
        accepted("interrupt(0)", p -> p.interrupt(0));
        accepted("interrupt(7)", p -> p.interrupt(7));
        int[] wrong = {-1, 8, 9, -8, 56, LEAST, MOST};
        for (int k : wrong) {
            refused("interrupt(" + k + ")", p -> p.interrupt(k));
        }
    }

    /** Promise 7: "no such port". */
    private static void bringRefusesAPort() {
        accepted("bring(0, 1)", p -> p.bring(0, 1));
        accepted("bring(255, 1)", p -> p.bring(255, 1));
        int[] wrong = {-1, 256, 257, -256, LEAST, MOST};
        for (int port : wrong) {
            refused("bring(" + port + ", 1)", p -> p.bring(port, 1));
            bringsInStill(port & 255, p -> p.bring(port, 1));
        }
        refused("bring(-1, -1): both are wrong", p -> p.bring(-1, -1));
    }

    /** Promise 7: "value is no byte". */
    private static void bringRefusesAValue() {
        accepted("bring(1, 0)", p -> p.bring(1, 0));
        accepted("bring(1, 255)", p -> p.bring(1, 255));
        int[] wrong = {-1, 256, 257, -256, LEAST, MOST};
        for (int value : wrong) {
            refused("bring(1, " + value + ")", p -> p.bring(1, value));
            bringsInStill(1, p -> p.bring(1, value));
        }
    }

    /** Promise 8: "no such port". */
    private static void outRefusesAPort() {
        accepted("out(0)", p -> p.out(0));
        accepted("out(255)", p -> p.out(255));
        int[] wrong = {-1, 256, 257, -256, LEAST, MOST};
        for (int port : wrong) {
            refused("out(" + port + ")", p -> p.out(port));
        }
    }

    /** Promise 9: "there is none" (0 .. 10 there are). */
    private static void registerRefusesWhatIsNone() {
        for (int register = 0; register <= 10; register++) {
            int which = register;
            accepted("register(" + register + ")", p -> p.register(which));
        }
        int[] wrong = {-1, 11, 12, 16, LEAST, MOST};
        for (int register : wrong) {
            refused("register(" + register + ")", p -> p.register(register));
        }
    }

    /** Promise 10: "not so" of the register: M (6) and PC (10) cannot be set. */
    private static void setRefusesARegister() {
        int[] wrong = {-1, 6, 10, 11, LEAST, MOST};
        int[] values = {0, 1, 255, 256, 65535, -1};
        for (int register : wrong) {
            for (int value : values) {
                refused("set(" + register + ", " + value + ")", p -> p.set(register, value));
            }
        }
    }

    /** Promise 10: "not so" of the value: "register 0 .. 5 or 7 to a byte". */
    private static void setRefusesWhatIsNoByte() {
        int[] byteRegisters = {0, 1, 2, 3, 4, 5, 7};
        int[] wrong = {-1, 256, 257, 65535, -256, LEAST, MOST};
        for (int register : byteRegisters) {
            accepted("set(" + register + ", 0)", p -> p.set(register, 0));
            accepted("set(" + register + ", 255)", p -> p.set(register, 255));
            for (int value : wrong) {
                refused("set(" + register + ", " + value + ")", p -> p.set(register, value));
            }
        }
    }

    /** Promise 10: "not so" of the value: the flags are set from a byte, of which five bits count. */
    private static void setRefusesFlagsThatAreNoByte() {
        accepted("set(8, 0)", p -> p.set(8, 0));
        accepted("set(8, 255)", p -> p.set(8, 255));
        int[] wrong = {-1, 256, 257, 65535, LEAST, MOST};
        for (int value : wrong) {
            refused("set(8, " + value + ")", p -> p.set(8, value));
        }
    }

    /** Promise 10: "not so" of the value: "9 SP (an address)". */
    private static void setRefusesAStackPointer() {
        int[] right = {0, 255, 256, 1023, 1024, 65535};
        for (int value : right) {
            accepted("set(9, " + value + ")", p -> p.set(9, value));
        }
        int[] wrong = {-1, 65536, 65537, -65536, LEAST, MOST};
        for (int value : wrong) {
            refused("set(9, " + value + ")", p -> p.set(9, value));
        }
    }

    /** Promise 11: "no such what". */
    private static void isRefusesAQuestion() {
        for (int what = 0; what <= 2; what++) {
            int which = what;
            accepted("is(" + what + ")", p -> p.is(which));
        }
        int[] wrong = {-1, 3, 4, LEAST, MOST};
        for (int what : wrong) {
            refused("is(" + what + ")", p -> p.is(what));
        }
    }

    private static void accepted(String what, Consumer<PortProcessor> call) {
        for (int state = 0; state < STATES.length; state++) {
            try {
                call.accept(STATES[state].make());
            } catch (RuntimeException e) {
                Check.yes(what + " in state " + state + " throws nothing, but threw " + e, false);
            }
        }
    }

    private static void refused(String what, Consumer<PortProcessor> call) {
        for (int state = 0; state < STATES.length; state++) {
            Whole.Maker before = STATES[state];
            String where = what + " in state " + state;
            Check.refused(where, () -> call.accept(before.make()));
            Whole.same(where, () -> afterRefusal(before, call), before);
        }
    }

    private static PortProcessor afterRefusal(Whole.Maker before, Consumer<PortProcessor> call) {
        PortProcessor processor = before.make();
        refuse(processor, call);
        return processor;
    }

    private static void refuse(PortProcessor processor, Consumer<PortProcessor> call) {
        try {
            call.accept(processor);
        } catch (IllegalArgumentException e) {
            return;
        }
        Check.yes("the call is refused", false);
    }

    private static void bringsInStill(int port, Consumer<PortProcessor> call) {
        PortProcessor processor = Check.with(0xDB, port);
        processor.bring(port, 77);
        refuse(processor, call);
        processor.run(1);
        Check.same("what port " + port + " brings in after a refused call", processor.register(7), 77);
    }

    private static final Whole.Maker[] STATES = {
        PortProcessor::new,
        RefusedCallTest::amidAProgram,
        RefusedCallTest::haltedWithOneWaiting,
        RefusedCallTest::behindFbWithOneWaiting,
    };

    private static PortProcessor amidAProgram() {
        PortProcessor processor = Check.with(0x3E, 0x9A, 0xD3, 0x00, 0xD3, 0xFF, 0x21, 0xFF, 0x03, 0x77, 0xB7, 0x3C, 0x3D, 0x04);
        processor.load(1016, 0x0123456789ABCDEFL, 8);
        processor.set(0, 11);
        processor.set(1, 22);
        processor.set(2, 33);
        processor.set(3, 44);
        processor.set(9, 700);
        processor.run(6);
        return processor;
    }

    private static PortProcessor haltedWithOneWaiting() {
        PortProcessor processor = Check.with(0x37, 0x3C, 0x76);
        processor.set(9, 1024);
        processor.interrupt(5);
        processor.run(5);
        return processor;
    }

    private static PortProcessor behindFbWithOneWaiting() {
        PortProcessor processor = Check.with(0x00, 0xFB, 0x3C, 0x3C);
        processor.set(9, 512);
        processor.interrupt(3);
        processor.run(2);
        return processor;
    }
}
