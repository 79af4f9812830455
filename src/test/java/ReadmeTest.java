/** The examples of README.md, call by call. */
public final class ReadmeTest {
    public static void main(String[] args) {
        portsExample();
        interruptExample();
        Check.finish();
    }

    private static void portsExample() {
        PortProcessor processor = new PortProcessor();
        processor.load(0, 0xDB07C601D30876L, 7);
        processor.bring(7, 41);
        Check.same("run(10)", processor.run(10), 4);
        Check.same("out(8)", processor.out(8), 42);
        Check.same("states()", processor.states(), 58);
    }

    private static void interruptExample() {
        PortProcessor processor = new PortProcessor();
        processor.load(0x100, 0xFB7600L, 3);
        processor.load(0x10, 0x3CC9L, 2);
        processor.set(9, 1024);
        processor.start(0x100);
        processor.interrupt(2);
        Check.same("run(5)", processor.run(5), 5);
        Check.same("register(7)", processor.register(7), 1);
        Check.same("register(10)", processor.register(10), 0x102);
    }
}
