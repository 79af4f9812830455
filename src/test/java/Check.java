/** Counts the answers that are not as due; every test ends with {@link #finish}. */
final class Check {
    interface Call {
        void make();
    }

    private static int wrong = 0;

    private Check() {
    }

    static void same(String what, long got, long due) {
        if (got != due) {
            wrong++;
            System.out.println(what + " answered " + got + ", due is " + due);
        }
    }

    static void yes(String what, boolean got) {
        same(what, got ? 1 : 0, 1);
    }

    static void no(String what, boolean got) {
        same(what, got ? 1 : 0, 0);
    }

    static void refused(String what, Call call) {
        String got = "nothing";
        try {
            call.make();
        } catch (RuntimeException e) {
            got = e.getClass().getName();
        }
        if (!got.equals("java.lang.IllegalArgumentException")) {
            wrong++;
            System.out.println(what + " threw " + got + ", due is IllegalArgumentException");
        }
    }

    /** A new processor whose memory begins with this program. */
    static PortProcessor with(int... program) {
        PortProcessor processor = new PortProcessor();
        place(processor, 0, program);
        return processor;
    }

    static void place(PortProcessor processor, int address, int... bytes) {
        for (int i = 0; i < bytes.length; i++) {
            processor.load(address + i, bytes[i], 1);
        }
    }

    static void finish() {
        if (wrong > 0) {
            System.out.println(wrong + " answers are not as due");
            System.exit(1);
        }
    }
}
