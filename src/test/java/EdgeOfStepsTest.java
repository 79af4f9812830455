/** The bounds that a step has: when an interrupt is let in, when it is not, when a halted one goes on; and run's own. */
public final class EdgeOfStepsTest {
    public static void main(String[] args) {
        noneIsLetInWithoutInte();
        oneIsLetInOneInstructionLate();
        oneAskedForBehindFbIsLate();
        oneAskedForLaterIsNotLate();
        everyFbIsLate();
        f3BehindFbKeepsItOut();
        fbBehindF3LetsItInAgain();
        fbAndReturnGoBackFirst();
        aHaltIsTheOneMoreInstruction();
        aHaltedOneWithInteIsWoken();
        aHaltedOneWithoutInteIsNot();
        anotherOneTakesItsPlace();
        theSameOneTwiceIsLetInOnce();
        anotherOneWaitsWhileTheFirstIsDone();
        theFirstAndTheLastInterrupt();
        aWaitingOneOutlastsEverything();
        startKeepsTheWaitBehindFb();
        oneIsLetInFromTheLastAddress();
        runTakesOneStepAndFiveHundred();
        runCountsNoHaltedStep();
        runCountsTheHaltAndTheWaking();
        Check.finish();
    }

    /** "when one waits and INTE is 1". */
    private static void noneIsLetInWithoutInte() {
        PortProcessor processor = with(0x00, 0x00, 0xF3, 0x00);
        processor.interrupt(2);
        processor.run(4);
        stands("INTE 0", processor, 0x104, false, false, true);
        PortProcessor noneWaits = with(0xFB, 0x00, 0x00, 0x00);
        noneWaits.run(4);
        stands("none waits", noneWaits, 0x104, false, true, false);
    }

    /** "an interrupt is not let in before one more instruction is done". */
    private static void oneIsLetInOneInstructionLate() {
        PortProcessor processor = with(0xFB, 0x3C, 0x3C);
        processor.interrupt(2);
        processor.run(1);
        stands("FB", processor, 0x101, false, true, true);
        processor.run(1);
        stands("one more", processor, 0x102, false, true, true);
        processor.run(1);
        stands("let in", processor, 16, false, false, false);
        Check.same("A", processor.register(7), 1);
        Check.same("what was pushed", pushed(processor), 0x102);
        Check.same("states()", processor.states(), 4 + 5 + 11);
    }

    private static void oneAskedForBehindFbIsLate() {
        PortProcessor processor = with(0xFB, 0x3C, 0x3C);
        processor.run(1);
        processor.interrupt(2);
        processor.run(1);
        stands("one more", processor, 0x102, false, true, true);
        processor.run(1);
        stands("let in", processor, 16, false, false, false);
    }

    private static void oneAskedForLaterIsNotLate() {
        PortProcessor processor = with(0xFB, 0x3C, 0x3C);
        processor.run(2);
        processor.interrupt(2);
        stands("asked for", processor, 0x102, false, true, true);
        processor.run(1);
        stands("let in", processor, 16, false, false, false);
    }

    /** "(and the instruction before was no FB)": not only the first one. */
    private static void everyFbIsLate() {
        PortProcessor processor = with(0xFB, 0x00, 0xFB, 0xFB, 0x00);
        processor.run(3);
        processor.interrupt(7);
        processor.run(1);
        stands("FB behind FB", processor, 0x104, false, true, true);
        processor.run(1);
        stands("one more", processor, 0x105, false, true, true);
        processor.run(1);
        stands("let in", processor, 56, false, false, false);
    }

    private static void f3BehindFbKeepsItOut() {
        PortProcessor processor = with(0xFB, 0xF3, 0x00, 0x00);
        processor.interrupt(1);
        processor.run(4);
        stands("F3 behind FB", processor, 0x104, false, false, true);
    }

    private static void fbBehindF3LetsItInAgain() {
        PortProcessor processor = with(0xF3, 0xFB, 0x00);
        processor.interrupt(1);
        processor.run(3);
        stands("one more", processor, 0x103, false, true, true);
        processor.run(1);
        stands("let in", processor, 8, false, false, false);
    }

    /** What the late letting in is for: the way back is taken before the next interrupt uses the stack. */
    private static void fbAndReturnGoBackFirst() {
        PortProcessor processor = with(0xFB, 0x00, 0x00);
        processor.load(8, 0xFBC9, 2);
        processor.interrupt(1);
        processor.run(3);
        processor.interrupt(1);
        processor.run(2);
        stands("gone back", processor, 0x102, false, true, true);
        Check.same("SP", processor.register(9), 900);
        processor.run(1);
        stands("let in again", processor, 8, false, false, false);
        Check.same("SP", processor.register(9), 898);
    }

    private static void aHaltIsTheOneMoreInstruction() {
        PortProcessor processor = with(0xFB, 0x76);
        processor.interrupt(4);
        Check.same("run(2)", processor.run(2), 2);
        stands("halted", processor, 0x102, true, true, true);
        Check.same("run(1)", processor.run(1), 1);
        stands("let in", processor, 32, false, false, false);
        Check.same("what was pushed", pushed(processor), 0x102);
        Check.same("states()", processor.states(), 4 + 7 + 11);
    }

    /** "it is not halted any more". */
    private static void aHaltedOneWithInteIsWoken() {
        PortProcessor processor = with(0xFB, 0x76);
        processor.load(32, 0x3C, 1);
        Check.same("run(6)", processor.run(6), 2);
        processor.interrupt(4);
        stands("asked for", processor, 0x102, true, true, true);
        Check.same("run(2)", processor.run(2), 2);
        stands("woken", processor, 33, false, false, false);
        Check.same("A", processor.register(7), 1);
    }

    /** "Otherwise, when it is halted: nothing (4 states)". */
    private static void aHaltedOneWithoutInteIsNot() {
        PortProcessor processor = with(0x76, 0x3C);
        processor.interrupt(4);
        Check.same("run(3)", processor.run(3), 1);
        stands("halted", processor, 0x101, true, false, true);
        Check.same("A", processor.register(7), 0);
        Check.same("SP", processor.register(9), 900);
        Check.same("states()", processor.states(), 7 + 4 + 4);
    }

    /** "(another one in its place takes it over)". */
    private static void anotherOneTakesItsPlace() {
        int[][] cases = {{0, 7}, {7, 0}, {3, 4}};
        for (int[] c : cases) {
            PortProcessor processor = with(0xFB, 0x00, 0x00);
            processor.interrupt(c[0]);
            processor.run(2);
            processor.interrupt(c[1]);
            processor.run(1);
            stands("let in", processor, 8 * c[1], false, false, false);
        }
    }

    /** "and none waits". */
    private static void theSameOneTwiceIsLetInOnce() {
        PortProcessor processor = with(0xFB, 0x00, 0x00);
        processor.load(16, 0xFB00, 2);
        processor.interrupt(2);
        processor.interrupt(2);
        processor.run(3);
        stands("let in", processor, 16, false, false, false);
        processor.run(3);
        stands("no other is let in", processor, 19, false, true, false);
    }

    /** "INTE becomes 0". */
    private static void anotherOneWaitsWhileTheFirstIsDone() {
        PortProcessor processor = with(0xFB, 0x00, 0x00);
        processor.load(16, 0x0000FB00, 4);
        processor.interrupt(2);
        processor.run(3);
        processor.interrupt(6);
        processor.run(4);
        stands("waits", processor, 20, false, true, true);
        processor.run(1);
        stands("let in", processor, 48, false, false, false);
        Check.same("SP", processor.register(9), 896);
    }

    /** "PC is pushed and becomes 8 k", for 0 and 7. */
    private static void theFirstAndTheLastInterrupt() {
        int[][] cases = {{0, 0}, {1, 8}, {6, 48}, {7, 56}};
        for (int[] c : cases) {
            PortProcessor processor = with(0xFB, 0x00);
            processor.run(2);
            Check.no("one waits", processor.is(2));
            processor.interrupt(c[0]);
            Check.yes("interrupt " + c[0] + " waits", processor.is(2));
            Check.same("run(1)", processor.run(1), 1);
            stands("let in", processor, c[1], false, false, false);
            Check.same("what was pushed", pushed(processor), 0x102);
        }
    }

    /** "waits once it was asked for, until it is let in". */
    private static void aWaitingOneOutlastsEverything() {
        PortProcessor processor = with(0x76);
        processor.interrupt(5);
        processor.run(500);
        processor.start(0x100);
        processor.run(500);
        processor.load(0x100, 0xFB00, 2);
        processor.start(0x100);
        processor.set(9, 900);
        processor.run(2);
        stands("waits", processor, 0x102, false, true, true);
        processor.run(1);
        stands("let in", processor, 40, false, false, false);
    }

    /** Promise 4: "(Nothing else changes: INTE and what waits stay.)", and so does what the instruction before was. */
    private static void startKeepsTheWaitBehindFb() {
        PortProcessor processor = with(0xFB);
        processor.interrupt(2);
        processor.run(1);
        processor.start(0x180);
        processor.run(1);
        stands("one more", processor, 0x181, false, true, true);
        processor.run(1);
        stands("let in", processor, 16, false, false, false);
        PortProcessor later = with(0xFB, 0x00);
        later.interrupt(2);
        later.run(2);
        later.start(0x180);
        later.run(1);
        stands("let in at once", later, 16, false, false, false);
        Check.same("what was pushed", pushed(later), 0x180);
    }

    private static void oneIsLetInFromTheLastAddress() {
        int[] addresses = {0, 1023, 1024, 65535};
        for (int address : addresses) {
            PortProcessor processor = with(0xFB, 0x00);
            processor.run(2);
            processor.start(address);
            processor.interrupt(3);
            processor.run(1);
            stands("let in", processor, 24, false, false, false);
            Check.same("what was pushed", pushed(processor), address);
        }
    }

    /** Promise 5: "Steps (1 .. 500)". */
    private static void runTakesOneStepAndFiveHundred() {
        PortProcessor processor = new PortProcessor();
        Check.same("run(1)", processor.run(1), 1);
        Check.same("PC", processor.register(10), 1);
        Check.same("run(500)", processor.run(500), 500);
        Check.same("PC", processor.register(10), 501);
        Check.same("run(499)", processor.run(499), 499);
        Check.same("PC", processor.register(10), 1000);
        Check.same("states()", processor.states(), 4000);
    }

    /** Promise 5: "(Those of a halted one are none, but take their states.)" */
    private static void runCountsNoHaltedStep() {
        PortProcessor processor = with(0x76);
        Check.same("run(1)", processor.run(1), 1);
        Check.same("states()", processor.states(), 7);
        Check.same("run(1) of a halted one", processor.run(1), 0);
        Check.same("states()", processor.states(), 11);
        Check.same("run(500) of a halted one", processor.run(500), 0);
        Check.same("states()", processor.states(), 2011);
    }

    /** Promise 5: "how many of them were instructions or let an interrupt in". */
    private static void runCountsTheHaltAndTheWaking() {
        PortProcessor processor = with(0xFB, 0x76, 0x76);
        processor.load(8, 0xC9, 1);
        processor.interrupt(1);
        Check.same("run(10): FB, 76, the interrupt, C9, 76", processor.run(10), 5);
        Check.same("states()", processor.states(), 4 + 7 + 11 + 10 + 7 + 5 * 4);
        stands("halted again", processor, 0x103, true, false, false);
    }

    private static PortProcessor with(int... program) {
        PortProcessor processor = new PortProcessor();
        Check.place(processor, 0x100, program);
        processor.start(0x100);
        processor.set(9, 900);
        return processor;
    }

    private static int pushed(PortProcessor processor) {
        Check.same("SP", processor.register(9), 898);
        return processor.peek(899) * 256 + processor.peek(898);
    }

    private static void stands(String when, PortProcessor processor, int pc, boolean halted, boolean inte, boolean waits) {
        Check.same(when + ": PC", processor.register(10), pc);
        Check.same(when + ": halted", processor.is(0) ? 1 : 0, halted ? 1 : 0);
        Check.same(when + ": INTE", processor.is(1) ? 1 : 0, inte ? 1 : 0);
        Check.same(when + ": one waits", processor.is(2) ? 1 : 0, waits ? 1 : 0);
    }
}
