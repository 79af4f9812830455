/** Promise 11: is. */
public final class QuestionTest {
    public static void main(String[] args) {
        PortProcessor processor = Check.with(0xFB, 0xF3, 0xFB, 0x76);
        answers(processor, "at first", false, false, false);
        processor.run(1);
        answers(processor, "after FB", false, true, false);
        processor.run(1);
        answers(processor, "after F3", false, false, false);
        processor.interrupt(0);
        answers(processor, "after interrupt(0)", false, false, true);
        processor.run(1);
        answers(processor, "after FB again", false, true, true);
        processor.run(1);
        answers(processor, "after 76", true, true, true);
        processor.run(1);
        answers(processor, "once it is let in", false, false, false);
        refusesOthers(processor);
        Check.finish();
    }

    private static void answers(PortProcessor processor, String when, boolean halted, boolean inte, boolean waits) {
        Check.same("is(0) " + when, processor.is(0) ? 1 : 0, halted ? 1 : 0);
        Check.same("is(1) " + when, processor.is(1) ? 1 : 0, inte ? 1 : 0);
        Check.same("is(2) " + when, processor.is(2) ? 1 : 0, waits ? 1 : 0);
    }

    private static void refusesOthers(PortProcessor processor) {
        int[] wrong = {-1, 3, Integer.MIN_VALUE, Integer.MAX_VALUE};
        for (int what : wrong) {
            Check.refused("is(" + what + ")", () -> processor.is(what));
        }
    }
}
