/**
 * All that can be seen of a processor. An object answers for 512 calls only, so several equal ones are made, and each
 * is asked for a part.
 */
final class Whole {
    /** Makes an equal processor each time, with at most some hundred calls. */
    interface Maker {
        PortProcessor make();
    }

    static final int MEMORY_SIZE = 1024;
    private static final int PORTS = 256;
    private static final int PART = 256;

    private Whole() {
    }

    static int[] memoryOf(Maker maker) {
        int[] memory = new int[MEMORY_SIZE];
        for (int part = 0; part < MEMORY_SIZE; part += PART) {
            PortProcessor processor = maker.make();
            for (int i = part; i < part + PART; i++) {
                memory[i] = processor.peek(i);
            }
        }
        return memory;
    }

    /** Compares everything but what the ports bring in; both makers' processors are then run on and compared again. */
    static void same(String what, Maker got, Maker due) {
        sameNow(what, got, due);
        sameNow(what + ", run on", () -> runOn(got), () -> runOn(due));
    }

    private static PortProcessor runOn(Maker maker) {
        PortProcessor processor = maker.make();
        processor.run(3);
        return processor;
    }

    private static void sameNow(String what, Maker got, Maker due) {
        PortProcessor one = got.make();
        PortProcessor other = due.make();
        for (int register = 0; register <= 10; register++) {
            Check.same(what + ": register(" + register + ")", one.register(register), other.register(register));
        }
        for (int question = 0; question <= 2; question++) {
            Check.same(what + ": is(" + question + ")", one.is(question) ? 1 : 0, other.is(question) ? 1 : 0);
        }
        Check.same(what + ": states()", one.states(), other.states());
        for (int port = 0; port < PORTS; port++) {
            Check.same(what + ": out(" + port + ")", one.out(port), other.out(port));
        }
        sameMemory(what, memoryOf(got), memoryOf(due));
    }

    static void sameMemory(String what, int[] got, int[] due) {
        for (int address = 0; address < MEMORY_SIZE; address++) {
            Check.same(what + ": peek(" + address + ")", got[address], due[address]);
        }
    }
}
