/** Promise 4: start. */
public final class StartTest {
    public static void main(String[] args) {
        setsTheProgramCounter();
        wakesAHaltedOne();
        leavesInterruptsAlone();
        keepsWhatTheInstructionBeforeWas();
        refusesWrongAddresses();
        Check.finish();
    }

    private static void setsTheProgramCounter() {
        PortProcessor processor = new PortProcessor();
        int[] addresses = {1023, 1024, 65535, 0};
        for (int address : addresses) {
            processor.start(address);
            Check.same("PC", processor.register(10), address);
        }
        processor.start(65535);
        processor.set(9, 500);
        Check.same("an instruction outside the memory", processor.run(1), 1);
        Check.same("PC after FF at 65535", processor.register(10), 0x38);
        Check.same("what was pushed", processor.peek(499) << 8 | processor.peek(498), 0);
        Check.same("states()", processor.states(), 11);
    }

    private static void wakesAHaltedOne() {
        PortProcessor processor = Check.with(0x76, 0x3C);
        processor.run(3);
        Check.yes("halted", processor.is(0));
        processor.start(1);
        Check.no("halted after start", processor.is(0));
        Check.same("run(1)", processor.run(1), 1);
        Check.same("A", processor.register(7), 1);
    }

    private static void leavesInterruptsAlone() {
        PortProcessor processor = Check.with(0xFB, 0x76);
        processor.set(7, 5);
        processor.set(8, 0xD5);
        processor.set(9, 300);
        processor.run(2);
        processor.interrupt(3);
        processor.start(600);
        Check.yes("INTE", processor.is(1));
        Check.yes("an interrupt waits", processor.is(2));
        Check.same("A", processor.register(7), 5);
        Check.same("flags", processor.register(8), 0xD7);
        Check.same("SP", processor.register(9), 300);
        Check.same("states()", processor.states(), 11);
        processor.run(1);
        Check.same("PC", processor.register(10), 24);
        Check.same("what was pushed", processor.peek(299) << 8 | processor.peek(298), 600);
    }

    private static void keepsWhatTheInstructionBeforeWas() {
        PortProcessor processor = Check.with(0xFB);
        processor.interrupt(2);
        processor.run(1);
        processor.start(50);
        processor.run(1);
        Check.same("PC after the instruction behind FB", processor.register(10), 51);
        processor.run(1);
        Check.same("PC once the interrupt is let in", processor.register(10), 16);
    }

    private static void refusesWrongAddresses() {
        PortProcessor processor = Check.with(0x76);
        processor.run(1);
        int[] wrong = {-1, 65536, Integer.MIN_VALUE, Integer.MAX_VALUE};
        for (int address : wrong) {
            Check.refused("start(" + address + ")", () -> processor.start(address));
        }
        Check.same("PC", processor.register(10), 1);
        Check.yes("still halted", processor.is(0));
    }
}
