import java.util.Random;

/** Whatever the program and the arguments are, nothing but the refusal is thrown, and all stays within its bounds. */
public final class AnyProgramTest {
    private static final int OBJECTS = 2000;
    private static final int CALLS = 300;
    private static final int[] EDGES = {
        -1, 0, 1, 2, 3, 6, 7, 8, 9, 10, 11, 255, 256, 500, 501, 1016, 1023, 1024, 65535, 65536,
        Integer.MIN_VALUE, Integer.MAX_VALUE,
    };

    public static void main(String[] args) {
        // A fixed seed: every run of the test makes the same calls.
        Random random = new Random(8080);
        for (int i = 0; i < OBJECTS; i++) {
            PortProcessor processor = new PortProcessor();
            for (int call = 0; call < CALLS; call++) {
                anyCall(processor, random);
            }
            staysInBounds(processor, random);
        }
        Check.finish();
    }

    private static void anyCall(PortProcessor processor, Random random) {
        int one = EDGES[random.nextInt(EDGES.length)];
        int other = EDGES[random.nextInt(EDGES.length)];
        int which = random.nextInt(14);
        try {
            call(processor, random, which, one, other);
        } catch (IllegalArgumentException e) {
            return;
        } catch (RuntimeException e) {
            Check.yes("call " + which + " with " + one + " and " + other + " throws no " + e, false);
        }
    }

    private static void call(PortProcessor processor, Random random, int which, int one, int other) {
        switch (which) {
            case 0 -> processor.load(one, random.nextLong(), other);
            case 1 -> processor.peek(one);
            case 2 -> processor.start(one);
            case 3 -> processor.run(one);
            case 4 -> processor.interrupt(one);
            case 5 -> processor.bring(one, other);
            case 6 -> processor.out(one);
            case 7 -> processor.register(one);
            case 8 -> processor.set(one, other);
            case 9 -> processor.is(one);
            case 10 -> processor.start(random.nextInt(1024));
            case 11 -> processor.run(1 + random.nextInt(20));
            default -> processor.load(random.nextInt(1017), random.nextLong(), 8);
        }
    }

    private static void staysInBounds(PortProcessor processor, Random random) {
        for (int register = 0; register <= 7; register++) {
            within("register(" + register + ")", processor.register(register), 0, 255);
        }
        within("SP", processor.register(9), 0, 65535);
        within("PC", processor.register(10), 0, 65535);
        Check.same("bits 5, 3 and 1 of the flags' byte", processor.register(8) & ~0xD5, 2);
        for (int i = 0; i < 100; i++) {
            within("a byte of the memory", processor.peek(random.nextInt(1024)), 0, 255);
            within("what was put out", processor.out(random.nextInt(256)), -1, 255);
        }
    }

    private static void within(String what, int got, int least, int most) {
        if (got < least || got > most) {
            Check.yes(what + " is within " + least + " and " + most + ", but is " + got, false);
        }
    }
}
