/** Promises 7 and 8: bring and out. */
public final class PortTest {
    public static void main(String[] args) {
        bringsInFromNowOn();
        everyPortIsItsOwn();
        putsOut();
        bringingInPutsNothingOut();
        refusesWrongPorts();
        Check.finish();
    }

    private static void bringsInFromNowOn() {
        PortProcessor processor = Check.with(0xDB, 9, 0xDB, 9, 0xDB, 9);
        processor.set(8, 0xD5);
        processor.bring(9, 200);
        processor.run(1);
        Check.same("A", processor.register(7), 200);
        processor.set(7, 0);
        processor.run(1);
        Check.same("A when the port is read again", processor.register(7), 200);
        processor.bring(9, 255);
        Check.same("A before the port is read", processor.register(7), 200);
        processor.run(1);
        Check.same("A", processor.register(7), 255);
        Check.same("flags", processor.register(8), 0xD7);
        Check.same("states()", processor.states(), 30);
    }

    private static void everyPortIsItsOwn() {
        for (int port = 0; port < 256; port++) {
            PortProcessor processor = Check.with(0xDB, port, 0xD3, 255 - port);
            processor.bring(255 - port, 255);
            processor.bring(port, port ^ 85);
            processor.run(2);
            Check.same("A from port " + port, processor.register(7), port ^ 85);
            Check.same("out(" + (255 - port) + ")", processor.out(255 - port), port ^ 85);
            Check.same("out(" + port + ")", processor.out(port), -1);
        }
    }

    private static void putsOut() {
        PortProcessor processor = Check.with(0xD3, 0, 0x3C, 0xD3, 0, 0xD3, 255);
        Check.same("out(0)", processor.out(0), -1);
        processor.run(1);
        Check.same("out(0) of a 0", processor.out(0), 0);
        processor.run(2);
        Check.same("out(0) put out last", processor.out(0), 1);
        Check.same("out(0) once more", processor.out(0), 1);
        Check.same("out(255)", processor.out(255), -1);
        processor.run(1);
        Check.same("out(255)", processor.out(255), 1);
    }

    private static void bringingInPutsNothingOut() {
        PortProcessor processor = Check.with(0xD3, 3, 0xDB, 3);
        processor.bring(3, 44);
        Check.same("out(3)", processor.out(3), -1);
        processor.set(7, 9);
        processor.run(2);
        Check.same("A", processor.register(7), 44);
        Check.same("out(3)", processor.out(3), 9);
    }

    private static void refusesWrongPorts() {
        PortProcessor processor = Check.with(0xDB, 0);
        int[] wrong = {-1, 256, Integer.MIN_VALUE, Integer.MAX_VALUE};
        for (int value : wrong) {
            Check.refused("out(" + value + ")", () -> processor.out(value));
            Check.refused("bring(" + value + ", 0)", () -> processor.bring(value, 0));
            Check.refused("bring(0, " + value + ")", () -> processor.bring(0, value));
        }
        processor.run(1);
        Check.same("A", processor.register(7), 0);
    }
}
