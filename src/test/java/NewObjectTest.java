/** Promise 1: all is 0, and no interrupt waits. */
public final class NewObjectTest {
    public static void main(String[] args) {
        PortProcessor processor = new PortProcessor();
        for (int register = 0; register <= 10; register++) {
            // Bit 1 of the flags' byte is 1 whatever the flags are.
            Check.same("register(" + register + ")", processor.register(register), register == 8 ? 2 : 0);
        }
        Check.no("halted", processor.is(0));
        Check.no("INTE", processor.is(1));
        Check.no("an interrupt waits", processor.is(2));
        Check.same("states()", processor.states(), 0);
        memoryIsEmpty();
        portsAreUntouched();
        objectsAreApart();
        Check.finish();
    }

    private static void memoryIsEmpty() {
        for (int half = 0; half < 1024; half += 512) {
            PortProcessor processor = new PortProcessor();
            for (int i = 0; i < 512; i++) {
                Check.same("peek(" + (half + i) + ")", processor.peek(half + i), 0);
            }
        }
    }

    private static void portsAreUntouched() {
        PortProcessor processor = new PortProcessor();
        for (int port = 0; port < 256; port++) {
            Check.same("out(" + port + ")", processor.out(port), -1);
        }
        for (int port = 0; port < 256; port++) {
            PortProcessor reader = Check.with(0xDB, port);
            reader.set(7, 77);
            reader.run(1);
            Check.same("what port " + port + " brings in at first", reader.register(7), 0);
        }
    }

    private static void objectsAreApart() {
        PortProcessor one = Check.with(0x3E, 9, 0xD3, 4);
        PortProcessor other = new PortProcessor();
        one.run(2);
        Check.same("the other's memory", other.peek(0), 0);
        Check.same("the other's A", other.register(7), 0);
        Check.same("the other's port", other.out(4), -1);
        Check.same("the other's states", other.states(), 0);
    }
}
