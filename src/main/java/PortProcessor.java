/** An eight-bit processor with flags, a stack, ports and interrupts; it counts the states that its steps take. */
public final class PortProcessor {
    private static final int LAST_BYTE = 255;
    private static final int LAST_ADDRESS = 65535;
    private static final int PORT_COUNT = 256;
    private static final int MOST_STEPS = 500;
    private static final int MOST_LOADED_BYTES = 8;

    private static final int REGISTER_H = 4;
    private static final int REGISTER_L = 5;
    private static final int REGISTER_M = 6;
    private static final int REGISTER_A = 7;
    private static final int FLAGS_BYTE = 8;
    private static final int STACK_POINTER = 9;
    private static final int PROGRAM_COUNTER = 10;

    private static final int PAIR_BC = 0;
    private static final int PAIR_DE = 1;
    private static final int PAIR_HL = 2;
    private static final int PAIR_SP = 3;

    private static final int HALT = 0x76;
    private static final int LET_INTERRUPTS_IN = 0xFB;
    private static final int NO_INTERRUPT = -1;
    private static final int NOTHING_PUT_OUT = -1;

    private final Memory memory = new Memory();
    private final Flags flags = new Flags();
    // Numbered as the instructions number them, so the place of M stays unused.
    private final int[] registers = new int[8];
    private final int[] broughtIn = new int[PORT_COUNT];
    private final int[] putOut = new int[PORT_COUNT];
    private int stackPointer;
    private int programCounter;
    private boolean halted;
    private boolean interruptsOn;
    // INTE counts only from one instruction after the one that sets it.
    private boolean lastLetInterruptsIn;
    private int waitingInterrupt = NO_INTERRUPT;
    private long stateCount;

    public PortProcessor() {
        for (int port = 0; port < PORT_COUNT; port++) {
            putOut[port] = NOTHING_PUT_OUT;
        }
    }

    public void load(int address, long bytes, int n) throws IllegalArgumentException {
        if (n < 1 || n > MOST_LOADED_BYTES) {
            throw new IllegalArgumentException("1 to 8 bytes can be loaded");
        }
        // The bound is lowered, not the address raised: a sum could wrap around.
        if (address < 0 || address > Memory.SIZE - n) {
            throw new IllegalArgumentException("not all of the bytes are in the memory");
        }
        for (int i = 0; i < n; i++) {
            memory.write(address + i, (int) (bytes >>> (8 * (n - 1 - i))) & LAST_BYTE);
        }
    }

    public int peek(int address) throws IllegalArgumentException {
        if (address < 0 || address >= Memory.SIZE) {
            throw new IllegalArgumentException("the address is not in the memory");
        }
        return memory.read(address);
    }

    public void start(int address) throws IllegalArgumentException {
        if (address < 0 || address > LAST_ADDRESS) {
            throw new IllegalArgumentException("no such address");
        }
        programCounter = address;
        halted = false;
    }

    public int run(int n) throws IllegalArgumentException {
        if (n < 1 || n > MOST_STEPS) {
            throw new IllegalArgumentException("1 to 500 steps can be run");
        }
        int done = 0;
        for (int i = 0; i < n; i++) {
            if (step()) {
                done++;
            }
        }
        return done;
    }

    public void interrupt(int k) throws IllegalArgumentException {
        if (k < 0 || k > 7) {
            throw new IllegalArgumentException("no such interrupt");
        }
        waitingInterrupt = k;
    }

    public void bring(int port, int value) throws IllegalArgumentException {
        if (!isByte(port)) {
            throw new IllegalArgumentException("no such port");
        }
        if (!isByte(value)) {
            throw new IllegalArgumentException("the value is no byte");
        }
        broughtIn[port] = value;
    }

    public int out(int port) throws IllegalArgumentException {
        if (!isByte(port)) {
            throw new IllegalArgumentException("no such port");
        }
        return putOut[port];
    }

    public int register(int register) throws IllegalArgumentException {
        if (register < 0 || register > PROGRAM_COUNTER) {
            throw new IllegalArgumentException("no such register");
        }
        switch (register) {
            case FLAGS_BYTE:
                return flags.asByte();
            case STACK_POINTER:
                return stackPointer;
            case PROGRAM_COUNTER:
                return programCounter;
            default:
                return readRegister(register);
        }
    }

    public void set(int register, int value) throws IllegalArgumentException {
        if (register < 0 || register > STACK_POINTER || register == REGISTER_M) {
            throw new IllegalArgumentException("no register that can be set");
        }
        int highest = register == STACK_POINTER ? LAST_ADDRESS : LAST_BYTE;
        if (value < 0 || value > highest) {
            throw new IllegalArgumentException("the register cannot hold the value");
        }
        if (register == STACK_POINTER) {
            stackPointer = value;
        } else if (register == FLAGS_BYTE) {
            flags.takeByte(value);
        } else {
            registers[register] = value;
        }
    }

    public boolean is(int what) throws IllegalArgumentException {
        switch (what) {
            case 0:
                return halted;
            case 1:
                return interruptsOn;
            case 2:
                return waitingInterrupt != NO_INTERRUPT;
            default:
                throw new IllegalArgumentException("no such question");
        }
    }

    public long states() {
        return stateCount;
    }

    private static boolean isByte(int value) {
        return value >= 0 && value <= LAST_BYTE;
    }

    /** Answers whether the step was an instruction or let an interrupt in. */
    private boolean step() {
        if (waitingInterrupt != NO_INTERRUPT && interruptsOn && !lastLetInterruptsIn) {
            letInterruptIn();
            stateCount += 11;
            return true;
        }
        if (halted) {
            stateCount += 4;
            return false;
        }
        int code = nextByte();
        lastLetInterruptsIn = code == LET_INTERRUPTS_IN;
        switch (code >> 6) {
            case 0:
                stateCount += doFirstQuarter(code);
                break;
            case 1:
                stateCount += move(code);
                break;
            case 2:
                stateCount += combineWithRegister(code);
                break;
            default:
                stateCount += doLastQuarter(code);
                break;
        }
        return true;
    }

    private void letInterruptIn() {
        interruptsOn = false;
        halted = false;
        callTo(8 * waitingInterrupt);
        waitingInterrupt = NO_INTERRUPT;
    }

    // From here on, what does an instruction or a group of them answers the states that it takes.

    private int doFirstQuarter(int code) {
        switch (code & 7) {
            case 1:
                return (code & 8) == 0 ? fillPair(code) : addPair(code);
            case 2:
                return storeOrFetch(code);
            case 3:
                return countPair(code);
            case 4:
                return raise(code);
            case 5:
                return lower(code);
            case 6:
                return fillRegister(code);
            case 7:
                return workOnA(code);
            default:
                return 4;
        }
    }

    private int doLastQuarter(int code) {
        switch (code & 7) {
            case 0:
                return returnOnCondition(code);
            case 1:
                return (code & 8) == 0 ? popPair(code) : returnOrCopyHl(code);
            case 2:
                return jumpOnCondition(code);
            case 3:
                return jumpExchangeOrSwitch(code);
            case 4:
                return callOnCondition(code);
            case 5:
                return (code & 8) == 0 ? pushPair(code) : callAlways();
            case 6:
                return combineWithNext(code);
            default:
                callTo(code & 0x38);
                return 11;
        }
    }

    private int fillPair(int code) {
        writePair(pairOf(code), nextTwoBytes());
        return 10;
    }

    private int addPair(int code) {
        int sum = readPair(PAIR_HL) + readPair(pairOf(code));
        flags.takeCarry(sum > LAST_ADDRESS);
        writePair(PAIR_HL, sum & LAST_ADDRESS);
        return 10;
    }

    private int countPair(int code) {
        int change = (code & 8) == 0 ? 1 : -1;
        writePair(pairOf(code), (readPair(pairOf(code)) + change) & LAST_ADDRESS);
        return 5;
    }

    private int storeOrFetch(int code) {
        switch (code >> 3) {
            case 0:
                memory.write(readPair(PAIR_BC), registers[REGISTER_A]);
                return 7;
            case 1:
                registers[REGISTER_A] = memory.read(readPair(PAIR_BC));
                return 7;
            case 2:
                memory.write(readPair(PAIR_DE), registers[REGISTER_A]);
                return 7;
            case 3:
                registers[REGISTER_A] = memory.read(readPair(PAIR_DE));
                return 7;
            case 4:
                return storeHl(nextTwoBytes());
            case 5:
                return fetchHl(nextTwoBytes());
            case 6:
                memory.write(nextTwoBytes(), registers[REGISTER_A]);
                return 13;
            default:
                registers[REGISTER_A] = memory.read(nextTwoBytes());
                return 13;
        }
    }

    private int storeHl(int address) {
        memory.write(address, registers[REGISTER_L]);
        memory.write((address + 1) & LAST_ADDRESS, registers[REGISTER_H]);
        return 16;
    }

    private int fetchHl(int address) {
        registers[REGISTER_L] = memory.read(address);
        registers[REGISTER_H] = memory.read((address + 1) & LAST_ADDRESS);
        return 16;
    }

    private int raise(int code) {
        int register = targetOf(code);
        writeRegister(register, flags.raised(readRegister(register)));
        return register == REGISTER_M ? 10 : 5;
    }

    private int lower(int code) {
        int register = targetOf(code);
        writeRegister(register, flags.lowered(readRegister(register)));
        return register == REGISTER_M ? 10 : 5;
    }

    private int fillRegister(int code) {
        int register = targetOf(code);
        writeRegister(register, nextByte());
        return register == REGISTER_M ? 10 : 7;
    }

    private int workOnA(int code) {
        int a = registers[REGISTER_A];
        switch (code >> 3) {
            case 0:
                registers[REGISTER_A] = flags.turnedLeft(a, a >> 7);
                break;
            case 1:
                registers[REGISTER_A] = flags.turnedRight(a, a & 1);
                break;
            case 2:
                registers[REGISTER_A] = flags.turnedLeft(a, flags.carryBit());
                break;
            case 3:
                registers[REGISTER_A] = flags.turnedRight(a, flags.carryBit());
                break;
            case 4:
                registers[REGISTER_A] = flags.decimalOf(a);
                break;
            case 5:
                registers[REGISTER_A] = LAST_BYTE - a;
                break;
            case 6:
                flags.takeCarry(true);
                break;
            default:
                flags.takeCarry(flags.carryBit() == 0);
                break;
        }
        return 4;
    }

    private int move(int code) {
        if (code == HALT) {
            halted = true;
            return 7;
        }
        int target = targetOf(code);
        int source = code & 7;
        writeRegister(target, readRegister(source));
        return target == REGISTER_M || source == REGISTER_M ? 7 : 5;
    }

    private int combineWithRegister(int code) {
        int source = code & 7;
        registers[REGISTER_A] = flags.combined(targetOf(code), registers[REGISTER_A], readRegister(source));
        return source == REGISTER_M ? 7 : 4;
    }

    private int combineWithNext(int code) {
        registers[REGISTER_A] = flags.combined(targetOf(code), registers[REGISTER_A], nextByte());
        return 7;
    }

    private int jumpOnCondition(int code) {
        int address = nextTwoBytes();
        if (flags.meet(targetOf(code))) {
            programCounter = address;
        }
        return 10;
    }

    private int callOnCondition(int code) {
        int address = nextTwoBytes();
        if (!flags.meet(targetOf(code))) {
            return 11;
        }
        callTo(address);
        return 17;
    }

    private int callAlways() {
        callTo(nextTwoBytes());
        return 17;
    }

    private int returnOnCondition(int code) {
        if (!flags.meet(targetOf(code))) {
            return 5;
        }
        programCounter = pop();
        return 11;
    }

    private int returnOrCopyHl(int code) {
        switch (pairOf(code)) {
            case 2:
                programCounter = readPair(PAIR_HL);
                return 5;
            case 3:
                stackPointer = readPair(PAIR_HL);
                return 5;
            default:
                programCounter = pop();
                return 10;
        }
    }

    private int popPair(int code) {
        int value = pop();
        int pair = pairOf(code);
        if (pair == PAIR_SP) {
            registers[REGISTER_A] = value >> 8;
            flags.takeByte(value & LAST_BYTE);
        } else {
            writePair(pair, value);
        }
        return 10;
    }

    private int pushPair(int code) {
        int pair = pairOf(code);
        push(pair == PAIR_SP ? registers[REGISTER_A] << 8 | flags.asByte() : readPair(pair));
        return 11;
    }

    private int jumpExchangeOrSwitch(int code) {
        switch (targetOf(code)) {
            case 2:
                putOut[nextByte()] = registers[REGISTER_A];
                return 10;
            case 3:
                registers[REGISTER_A] = broughtIn[nextByte()];
                return 10;
            case 4:
                return exchangeHlWithStack();
            case 5:
                return exchangeHlWithDe();
            case 6:
                interruptsOn = false;
                return 4;
            case 7:
                interruptsOn = true;
                return 4;
            default:
                programCounter = nextTwoBytes();
                return 10;
        }
    }

    private int exchangeHlWithStack() {
        int above = (stackPointer + 1) & LAST_ADDRESS;
        int low = memory.read(stackPointer);
        int high = memory.read(above);
        memory.write(stackPointer, registers[REGISTER_L]);
        memory.write(above, registers[REGISTER_H]);
        registers[REGISTER_L] = low;
        registers[REGISTER_H] = high;
        return 18;
    }

    private int exchangeHlWithDe() {
        int hl = readPair(PAIR_HL);
        writePair(PAIR_HL, readPair(PAIR_DE));
        writePair(PAIR_DE, hl);
        return 4;
    }

    /** Bits 3 to 5 of an instruction: a register, a condition or a kind of calculation. */
    private static int targetOf(int code) {
        return code >> 3 & 7;
    }

    private static int pairOf(int code) {
        return code >> 4 & 3;
    }

    private int nextByte() {
        int value = memory.read(programCounter);
        programCounter = (programCounter + 1) & LAST_ADDRESS;
        return value;
    }

    private int nextTwoBytes() {
        int low = nextByte();
        return nextByte() << 8 | low;
    }

    private void callTo(int address) {
        push(programCounter);
        programCounter = address;
    }

    private void push(int value) {
        stackPointer = (stackPointer - 1) & LAST_ADDRESS;
        memory.write(stackPointer, value >> 8);
        stackPointer = (stackPointer - 1) & LAST_ADDRESS;
        memory.write(stackPointer, value & LAST_BYTE);
    }

    private int pop() {
        int low = memory.read(stackPointer);
        stackPointer = (stackPointer + 1) & LAST_ADDRESS;
        int high = memory.read(stackPointer);
        stackPointer = (stackPointer + 1) & LAST_ADDRESS;
        return high << 8 | low;
    }

    private int readRegister(int register) {
        return register == REGISTER_M ? memory.read(readPair(PAIR_HL)) : registers[register];
    }

    private void writeRegister(int register, int value) {
        if (register == REGISTER_M) {
            memory.write(readPair(PAIR_HL), value);
        } else {
            registers[register] = value;
        }
    }

    private int readPair(int pair) {
        return pair == PAIR_SP ? stackPointer : registers[2 * pair] << 8 | registers[2 * pair + 1];
    }

    private void writePair(int pair, int value) {
        if (pair == PAIR_SP) {
            stackPointer = value;
        } else {
            registers[2 * pair] = value >> 8;
            registers[2 * pair + 1] = value & LAST_BYTE;
        }
    }

    /** The bytes that can be kept; every other address reads as 255 and forgets what is written. */
    private static final class Memory {
        static final int SIZE = 1024;

        private final int[] cells = new int[SIZE];

        int read(int address) {
            return address >= 0 && address < SIZE ? cells[address] : LAST_BYTE;
        }

        void write(int address, int value) {
            if (address >= 0 && address < SIZE) {
                cells[address] = value;
            }
        }
    }

    /** The five flags, with the calculations on bytes that change them. */
    private static final class Flags {
        private static final int SIGN_BIT = 0x80;
        private static final int ZERO_BIT = 0x40;
        private static final int AUXILIARY_BIT = 0x10;
        private static final int PARITY_BIT = 0x04;
        private static final int ALWAYS_SET_BIT = 0x02;
        private static final int CARRY_BIT = 0x01;

        private static final int COMPARE = 7;

        private boolean sign;
        private boolean zero;
        private boolean auxiliary;
        private boolean parity;
        private boolean carry;

        int asByte() {
            return ALWAYS_SET_BIT
                    | (sign ? SIGN_BIT : 0)
                    | (zero ? ZERO_BIT : 0)
                    | (auxiliary ? AUXILIARY_BIT : 0)
                    | (parity ? PARITY_BIT : 0)
                    | (carry ? CARRY_BIT : 0);
        }

        void takeByte(int value) {
            sign = (value & SIGN_BIT) != 0;
            zero = (value & ZERO_BIT) != 0;
            auxiliary = (value & AUXILIARY_BIT) != 0;
            parity = (value & PARITY_BIT) != 0;
            carry = (value & CARRY_BIT) != 0;
        }

        int carryBit() {
            return carry ? 1 : 0;
        }

        void takeCarry(boolean value) {
            carry = value;
        }

        /** Conditions come in twos: the flag is 0, the flag is 1. */
        boolean meet(int condition) {
            return flagOfCondition(condition >> 1) == ((condition & 1) == 1);
        }

        private boolean flagOfCondition(int which) {
            switch (which) {
                case 0:
                    return zero;
                case 1:
                    return carry;
                case 2:
                    return parity;
                default:
                    return sign;
            }
        }

        /** What A becomes when calculation k is done with it and the byte s. */
        int combined(int k, int a, int s) {
            int result;
            switch (k) {
                case 0:
                    result = sum(a, s, 0);
                    break;
                case 1:
                    result = sum(a, s, carryBit());
                    break;
                case 3:
                    result = difference(a, s, carryBit());
                    break;
                case 4:
                    result = logical(a & s, ((a | s) & 8) != 0);
                    break;
                case 5:
                    result = logical(a ^ s, false);
                    break;
                case 6:
                    result = logical(a | s, false);
                    break;
                default:
                    result = difference(a, s, 0);
                    break;
            }
            judge(result);
            return k == COMPARE ? a : result;
        }

        private int sum(int a, int s, int carryIn) {
            int whole = a + s + carryIn;
            auxiliary = (a & 15) + (s & 15) + carryIn > 15;
            carry = whole > LAST_BYTE;
            return whole & LAST_BYTE;
        }

        /** Adds the turned-over byte: then no carry means that something was borrowed. */
        private int difference(int a, int s, int borrowed) {
            int result = sum(a, LAST_BYTE - s, 1 - borrowed);
            carry = !carry;
            return result;
        }

        private int logical(int result, boolean auxiliaryThen) {
            auxiliary = auxiliaryThen;
            carry = false;
            return result;
        }

        int raised(int value) {
            int result = (value + 1) & LAST_BYTE;
            auxiliary = (result & 15) == 0;
            judge(result);
            return result;
        }

        int lowered(int value) {
            int result = (value - 1) & LAST_BYTE;
            auxiliary = (result & 15) != 15;
            judge(result);
            return result;
        }

        int turnedLeft(int value, int bitIn) {
            carry = (value & 0x80) != 0;
            return (value << 1 | bitIn) & LAST_BYTE;
        }

        int turnedRight(int value, int bitIn) {
            carry = (value & 1) != 0;
            return value >> 1 | bitIn << 7;
        }

        int decimalOf(int value) {
            boolean lowToMend = (value & 15) > 9 || auxiliary;
            // The sum stays unmasked: above 0x9F stands for high bits above 9 and for a carry alike.
            int mended = lowToMend ? value + 6 : value;
            auxiliary = lowToMend && (value & 15) + 6 > 15;
            if (mended > 0x9F || carry) {
                mended += 0x60;
                carry = true;
            }
            int result = mended & LAST_BYTE;
            judge(result);
            return result;
        }

        private void judge(int result) {
            sign = (result & 0x80) != 0;
            zero = result == 0;
            parity = (Integer.bitCount(result) & 1) == 0;
        }
    }
}
