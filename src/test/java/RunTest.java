/** Promise 5: run. */
public final class RunTest {
    public static void main(String[] args) {
        countsInstructions();
        countsNoHaltedSteps();
        countsInterrupts();
        runsFarOutsideTheMemory();
        refusesWrongNumbers();
        Check.finish();
    }

    private static void countsInstructions() {
        PortProcessor processor = new PortProcessor();
        Check.same("run(1)", processor.run(1), 1);
        Check.same("PC", processor.register(10), 1);
        Check.same("run(500)", processor.run(500), 500);
        Check.same("PC", processor.register(10), 501);
        Check.same("states()", processor.states(), 501 * 4);
    }

    private static void countsNoHaltedSteps() {
        PortProcessor processor = Check.with(0x00, 0x76);
        Check.same("run(5)", processor.run(5), 2);
        Check.same("states()", processor.states(), 4 + 7 + 3 * 4);
        Check.same("run(500)", processor.run(500), 0);
        Check.same("states()", processor.states(), 4 + 7 + 503 * 4);
        Check.same("PC", processor.register(10), 2);
    }

    private static void countsInterrupts() {
        PortProcessor processor = Check.with(0xFB, 0x76);
        Check.place(processor, 40, 0x76);
        processor.set(9, 1024);
        processor.run(4);
        processor.interrupt(5);
        Check.same("run(4): the interrupt, and a halt there", processor.run(4), 2);
        Check.same("states()", processor.states(), 4 + 7 + 2 * 4 + 11 + 7 + 2 * 4);
    }

    private static void runsFarOutsideTheMemory() {
        PortProcessor processor = Check.with();
        Check.place(processor, 0x38, 0xFF);
        Check.same("run(500)", processor.run(500), 500);
        Check.same("run(500)", processor.run(500), 500);
        Check.same("PC", processor.register(10), 0x38);
    }

    private static void refusesWrongNumbers() {
        PortProcessor processor = new PortProcessor();
        int[] wrong = {0, -1, 501, Integer.MIN_VALUE, Integer.MAX_VALUE};
        for (int n : wrong) {
            Check.refused("run(" + n + ")", () -> processor.run(n));
        }
        Check.same("PC", processor.register(10), 0);
        Check.same("states()", processor.states(), 0);
    }
}
