import java.util.Random;

/** Runs of calls with programs of all kinds, each answer held against a second reading of the document. */
public final class SecondReadingTest {
    private static final int OBJECTS = 4000;
    private static final int ACTIONS = 12;
    private static final int FEWEST_OF_EACH = 100;

    private static final int[] done = new int[256];

    public static void main(String[] args) {
        // A fixed seed: every run of the test makes the same calls.
        Random random = new Random(20261115);
        for (int i = 0; i < OBJECTS; i++) {
            oneObject(random, i);
        }
        for (int code = 0; code < 256; code++) {
            Check.yes("instruction " + Integer.toHexString(code) + " was done often, " + done[code] + " times",
                    done[code] >= FEWEST_OF_EACH);
        }
        Check.finish();
    }

    /** 128 calls that load, at most 12 times 18 calls that act and look, 156 that look at the memory and the ports. */
    private static void oneObject(Random random, int object) {
        PortProcessor processor = new PortProcessor();
        SecondReading due = new SecondReading();
        for (int address = 0; address < 1024; address += 8) {
            long bytes = eightBytes(random);
            processor.load(address, bytes, 8);
            for (int i = 0; i < 8; i++) {
                due.memory[address + i] = (int) (bytes >>> 56 - 8 * i & 255);
            }
        }
        int[] before = due.memory.clone();
        for (int i = 0; i < ACTIONS; i++) {
            act(random, processor, due);
            sameState("object " + object + ", action " + i, processor, due);
        }
        sameMemory("object " + object, random, processor, due, before);
        for (int i = 0; i < 56; i++) {
            int port = i < 8 ? i : random.nextInt(256);
            Check.same("object " + object + ": out(" + port + ")", processor.out(port), due.puts[port]);
        }
        for (int code = 0; code < 256; code++) {
            done[code] += due.done[code];
        }
    }

    /** Any bytes, but small ones so often that addresses fall into the memory and ports are used again. */
    private static long eightBytes(Random random) {
        long bytes = 0;
        for (int i = 0; i < 8; i++) {
            bytes = bytes << 8 | (random.nextInt(3) == 0 ? random.nextInt(8) : random.nextInt(256));
        }
        return bytes;
    }

    private static int anyAddress(Random random) {
        return switch (random.nextInt(8)) {
            case 0 -> random.nextInt(65536);
            case 1 -> 65530 + random.nextInt(6);
            case 2 -> 1018 + random.nextInt(8);
            default -> random.nextInt(1024);
        };
    }

    private static void act(Random random, PortProcessor processor, SecondReading due) {
        switch (random.nextInt(5)) {
            case 0 -> setPair(random, processor, due);
            case 1 -> {
                int register = new int[] {0, 1, 2, 3, 4, 5, 7, 8}[random.nextInt(8)];
                int value = random.nextInt(256);
                processor.set(register, value);
                due.put(register, value);
            }
            case 2 -> {
                int port = random.nextInt(8);
                int value = random.nextInt(256);
                processor.bring(port, value);
                due.brings[port] = value;
            }
            case 3 -> {
                int k = random.nextInt(8);
                processor.interrupt(k);
                due.waits = k;
            }
            default -> {
                int address = anyAddress(random);
                processor.start(address);
                due.pc = address;
                due.halted = false;
            }
        }
        int steps = random.nextInt(4) == 0 ? 1 : 1 + random.nextInt(40);
        Check.same("run(" + steps + ")", processor.run(steps), due.run(steps));
    }

    private static void setPair(Random random, PortProcessor processor, SecondReading due) {
        int pair = random.nextInt(4);
        int value = anyAddress(random);
        Pairs.set(processor, pair, value);
        if (pair == Pairs.SP) {
            due.sp = value;
        } else {
            due.put(2 * pair, value / 256);
            due.put(2 * pair + 1, value % 256);
        }
    }

    private static void sameState(String when, PortProcessor processor, SecondReading due) {
        for (int register = 0; register <= 10; register++) {
            Check.same(when + ": register(" + register + ")", processor.register(register), due.get(register));
        }
        Check.same(when + ": is(0)", processor.is(0) ? 1 : 0, due.halted ? 1 : 0);
        Check.same(when + ": is(1)", processor.is(1) ? 1 : 0, due.inte ? 1 : 0);
        Check.same(when + ": is(2)", processor.is(2) ? 1 : 0, due.waits >= 0 ? 1 : 0);
        Check.same(when + ": states()", processor.states(), due.states);
    }

    /** Looks where something should have been written first, then anywhere. */
    private static void sameMemory(String when, Random random, PortProcessor processor, SecondReading due, int[] before) {
        int looks = 100;
        for (int address = 0; address < 1024 && looks > 20; address++) {
            if (due.memory[address] != before[address]) {
                Check.same(when + ": peek(" + address + ")", processor.peek(address), due.memory[address]);
                looks--;
            }
        }
        for (; looks > 0; looks--) {
            int address = random.nextInt(1024);
            Check.same(when + ": peek(" + address + ")", processor.peek(address), due.memory[address]);
        }
    }
}
