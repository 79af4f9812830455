/** Promise 6: interrupt, and how a step lets one in. */
public final class InterruptTest {
    public static void main(String[] args) {
        waitsUntilItIsLetIn();
        everyNumberHasItsPlace();
        anotherTakesItsPlace();
        isLetInOneInstructionLate();
        everyFurtherFbPutsItOff();
        f3KeepsItOut();
        wakesAHaltedOne();
        refusesWrongNumbers();
        Check.finish();
    }

    private static void waitsUntilItIsLetIn() {
        PortProcessor processor = new PortProcessor();
        processor.set(9, 200);
        processor.interrupt(4);
        Check.same("run(3) with INTE 0", processor.run(3), 3);
        Check.same("PC", processor.register(10), 3);
        Check.yes("it still waits", processor.is(2));
        Check.same("SP", processor.register(9), 200);
    }

    private static void everyNumberHasItsPlace() {
        for (int k = 0; k <= 7; k++) {
            PortProcessor processor = Check.with(0xC3, 0x00, 0x03);
            Check.place(processor, 0x300, 0xFB, 0x00);
            processor.set(9, 1024);
            processor.run(3);
            processor.interrupt(k);
            Check.yes("it waits", processor.is(2));
            Check.same("run(1)", processor.run(1), 1);
            Check.same("PC", processor.register(10), 8 * k);
            Check.same("SP", processor.register(9), 1022);
            Check.same("the higher byte", processor.peek(1023), 3);
            Check.same("the lower byte", processor.peek(1022), 2);
            Check.no("INTE", processor.is(1));
            Check.no("it waits", processor.is(2));
            Check.same("states()", processor.states(), 10 + 4 + 4 + 11);
        }
    }

    private static void anotherTakesItsPlace() {
        PortProcessor processor = Check.with(0xFB, 0x00);
        processor.interrupt(6);
        processor.interrupt(1);
        processor.set(9, 900);
        processor.run(3);
        Check.same("PC", processor.register(10), 8);
        Check.no("one waits", processor.is(2));
    }

    private static void isLetInOneInstructionLate() {
        PortProcessor processor = Check.with(0xFB, 0x3C, 0x3C);
        processor.set(9, 900);
        processor.interrupt(2);
        processor.run(1);
        Check.yes("INTE after FB", processor.is(1));
        processor.run(1);
        Check.same("PC behind the one more instruction", processor.register(10), 2);
        Check.same("A", processor.register(7), 1);
        Check.yes("it waits", processor.is(2));
        processor.run(1);
        Check.same("PC", processor.register(10), 16);
        Check.same("A", processor.register(7), 1);
        Check.same("what was pushed", processor.peek(899) << 8 | processor.peek(898), 2);
    }

    private static void everyFurtherFbPutsItOff() {
        PortProcessor processor = Check.with(0xFB, 0xFB, 0xFB, 0x00, 0x00);
        processor.set(9, 900);
        processor.interrupt(7);
        processor.run(4);
        Check.same("PC", processor.register(10), 4);
        Check.yes("it waits", processor.is(2));
        processor.run(1);
        Check.same("PC", processor.register(10), 56);
    }

    private static void f3KeepsItOut() {
        PortProcessor processor = Check.with(0xFB, 0xF3, 0x00, 0x00);
        processor.interrupt(7);
        Check.same("run(4)", processor.run(4), 4);
        Check.same("PC", processor.register(10), 4);
        Check.no("INTE", processor.is(1));
        Check.yes("it waits", processor.is(2));
    }

    private static void wakesAHaltedOne() {
        PortProcessor processor = Check.with(0xFB, 0x76, 0x3C);
        Check.place(processor, 8, 0xC9);
        processor.set(9, 900);
        processor.interrupt(1);
        Check.same("run(2)", processor.run(2), 2);
        Check.yes("halted: the halt is the one more instruction", processor.is(0));
        Check.same("run(1)", processor.run(1), 1);
        Check.no("halted", processor.is(0));
        Check.same("run(2)", processor.run(2), 2);
        Check.same("A", processor.register(7), 1);
        Check.same("PC", processor.register(10), 3);

        PortProcessor deaf = Check.with(0x76);
        deaf.interrupt(1);
        Check.same("run(5) of a halted one with INTE 0", deaf.run(5), 1);
        Check.yes("halted", deaf.is(0));
        Check.yes("it waits", deaf.is(2));
        Check.same("states()", deaf.states(), 7 + 4 * 4);
    }

    private static void refusesWrongNumbers() {
        PortProcessor processor = new PortProcessor();
        int[] wrong = {-1, 8, Integer.MIN_VALUE, Integer.MAX_VALUE};
        for (int k : wrong) {
            Check.refused("interrupt(" + k + ")", () -> processor.interrupt(k));
        }
        Check.no("one waits", processor.is(2));
    }
}
