import java.util.Arrays;

/**
 * The document read a second time, sentence by sentence in its own order, sharing nothing with the program: the flags
 * are kept as their byte, every instruction is found by its pattern of bits, and what it takes stands in a table.
 * Arguments are not looked at; RefusedCallTest does that.
 */
final class SecondReading {
    private static final int S = 0x80;
    private static final int Z = 0x40;
    private static final int AUX = 0x10;
    private static final int P = 0x04;
    private static final int C = 0x01;

    /** States by the instruction's byte, sixteen to a line; a condition that holds takes TAKEN_MORE besides. */
    private static final int[] STATES = {
        4, 10, 7, 5, 5, 5, 7, 4, 4, 10, 7, 5, 5, 5, 7, 4,
        4, 10, 7, 5, 5, 5, 7, 4, 4, 10, 7, 5, 5, 5, 7, 4,
        4, 10, 16, 5, 5, 5, 7, 4, 4, 10, 16, 5, 5, 5, 7, 4,
        4, 10, 13, 5, 10, 10, 10, 4, 4, 10, 13, 5, 5, 5, 7, 4,
        5, 5, 5, 5, 5, 5, 7, 5, 5, 5, 5, 5, 5, 5, 7, 5,
        5, 5, 5, 5, 5, 5, 7, 5, 5, 5, 5, 5, 5, 5, 7, 5,
        5, 5, 5, 5, 5, 5, 7, 5, 5, 5, 5, 5, 5, 5, 7, 5,
        7, 7, 7, 7, 7, 7, 7, 7, 5, 5, 5, 5, 5, 5, 7, 5,
        4, 4, 4, 4, 4, 4, 7, 4, 4, 4, 4, 4, 4, 4, 7, 4,
        4, 4, 4, 4, 4, 4, 7, 4, 4, 4, 4, 4, 4, 4, 7, 4,
        4, 4, 4, 4, 4, 4, 7, 4, 4, 4, 4, 4, 4, 4, 7, 4,
        4, 4, 4, 4, 4, 4, 7, 4, 4, 4, 4, 4, 4, 4, 7, 4,
        5, 10, 10, 10, 11, 11, 7, 11, 5, 10, 10, 10, 11, 17, 7, 11,
        5, 10, 10, 10, 11, 11, 7, 11, 5, 10, 10, 10, 11, 17, 7, 11,
        5, 10, 10, 18, 11, 11, 7, 11, 5, 5, 10, 4, 11, 17, 7, 11,
        5, 10, 10, 4, 11, 11, 7, 11, 5, 5, 10, 4, 11, 17, 7, 11,
    };
    private static final int TAKEN_MORE = 6;

    final int[] memory = new int[1024];
    final int[] brings = new int[256];
    final int[] puts = new int[256];
    /** How often each instruction was done, so that a test can tell whether it looked at all of them. */
    final int[] done = new int[256];
    int b;
    int c;
    int d;
    int e;
    int h;
    int l;
    int a;
    int sp;
    int pc;
    int flags = 2;
    boolean halted;
    boolean inte;
    boolean beforeWasFb;
    int waits = -1;
    long states;

    SecondReading() {
        Arrays.fill(puts, -1);
    }

    int run(int n) {
        int counted = 0;
        for (int i = 0; i < n; i++) {
            if (waits >= 0 && inte && !beforeWasFb) {
                inte = false;
                halted = false;
                push(pc / 256, pc % 256);
                pc = waits * 8;
                waits = -1;
                states += 11;
                counted++;
            } else if (halted) {
                states += 4;
            } else {
                instruction();
                counted++;
            }
        }
        return counted;
    }

    int read(int address) {
        return address < 1024 ? memory[address] : 255;
    }

    private void write(int address, int value) {
        if (address < 1024) {
            memory[address] = value;
        }
    }

    int get(int register) {
        int[] all = {b, c, d, e, h, l, read(h * 256 + l), a, flags, sp, pc};
        return all[register];
    }

    void put(int register, int value) {
        switch (register) {
            case 0 -> b = value;
            case 1 -> c = value;
            case 2 -> d = value;
            case 3 -> e = value;
            case 4 -> h = value;
            case 5 -> l = value;
            case 6 -> write(h * 256 + l, value);
            case 7 -> a = value;
            case 8 -> flags = value & (S | Z | AUX | P | C) | 2;
            default -> sp = value;
        }
    }

    private int pair(int p) {
        return p == 3 ? sp : get(2 * p) * 256 + get(2 * p + 1);
    }

    private void putPair(int p, int value) {
        int sixteen = Math.floorMod(value, 65536);
        if (p == 3) {
            sp = sixteen;
        } else {
            put(2 * p, sixteen / 256);
            put(2 * p + 1, sixteen % 256);
        }
    }

    private void push(int higher, int lower) {
        sp = Math.floorMod(sp - 1, 65536);
        write(sp, higher);
        sp = Math.floorMod(sp - 1, 65536);
        write(sp, lower);
    }

    private int pop() {
        int lower = read(sp);
        int higher = read((sp + 1) % 65536);
        sp = (sp + 2) % 65536;
        return higher * 256 + lower;
    }

    private void flag(int which, boolean value) {
        flags = value ? flags | which : flags & ~which;
    }

    private boolean has(int which) {
        return (flags & which) != 0;
    }

    private void szp(int result) {
        int ones = 0;
        for (int bit = 0; bit < 8; bit++) {
            ones += result >> bit & 1;
        }
        flag(S, result >= 128);
        flag(Z, result == 0);
        flag(P, ones % 2 == 0);
    }

    private int n() {
        int value = read(pc);
        pc = (pc + 1) % 65536;
        return value;
    }

    private int nn() {
        int lower = n();
        int higher = n();
        return higher * 256 + lower;
    }

    private void instruction() {
        int code = n();
        done[code]++;
        beforeWasFb = code == 0xFB;
        states += STATES[code];
        if (code < 0x40) {
            first(code);
        } else if (code == 0x76) {
            halted = true;
        } else if (code < 0x80) {
            put((code - 0x40) / 8, get(code % 8));
        } else if (code < 0xC0) {
            calculate((code - 0x80) / 8, get(code % 8));
        } else {
            last(code);
        }
    }

    private void first(int code) {
        int p = code / 16;
        int register = code / 8;
        switch (code % 16) {
            case 0x1 -> putPair(p, nn());
            case 0x3 -> putPair(p, pair(p) + 1);
            case 0xB -> putPair(p, pair(p) - 1);
            case 0x9 -> {
                int sum = pair(2) + pair(p);
                flag(C, sum >= 65536);
                putPair(2, sum);
            }
            case 0x4, 0xC -> {
                int result = (get(register) + 1) % 256;
                put(register, result);
                szp(result);
                flag(AUX, result % 16 == 0);
            }
            case 0x5, 0xD -> {
                int result = (get(register) + 255) % 256;
                put(register, result);
                szp(result);
                flag(AUX, result % 16 != 15);
            }
            case 0x6, 0xE -> put(register, n());
            case 0x2, 0xA -> storeOrFetch(code);
            case 0x7, 0xF -> changeA(code);
            default -> { }
        }
    }

    private void storeOrFetch(int code) {
        switch (code) {
            case 0x02 -> write(b * 256 + c, a);
            case 0x12 -> write(d * 256 + e, a);
            case 0x0A -> a = read(b * 256 + c);
            case 0x1A -> a = read(d * 256 + e);
            case 0x22 -> {
                int address = nn();
                write(address, l);
                write((address + 1) % 65536, h);
            }
            case 0x2A -> {
                int address = nn();
                l = read(address);
                h = read((address + 1) % 65536);
            }
            case 0x32 -> write(nn(), a);
            default -> a = read(nn());
        }
    }

    private void changeA(int code) {
        int carryBefore = has(C) ? 1 : 0;
        switch (code) {
            case 0x07 -> {
                a = a * 2 % 256 + a / 128;
                flag(C, a % 2 == 1);
            }
            case 0x0F -> {
                a = a / 2 + a % 2 * 128;
                flag(C, a >= 128);
            }
            case 0x17 -> {
                flag(C, a >= 128);
                a = a * 2 % 256 + carryBefore;
            }
            case 0x1F -> {
                flag(C, a % 2 == 1);
                a = a / 2 + carryBefore * 128;
            }
            case 0x27 -> decimal();
            case 0x2F -> a = 255 - a;
            case 0x37 -> flag(C, true);
            default -> flag(C, carryBefore == 0);
        }
    }

    private void decimal() {
        boolean carryOfFirst = false;
        boolean carryFromBit3 = false;
        if (a % 16 > 9 || has(AUX)) {
            carryFromBit3 = a % 16 + 6 >= 16;
            carryOfFirst = a + 6 >= 256;
            a = (a + 6) % 256;
        }
        if (a / 16 > 9 || has(C) || carryOfFirst) {
            a = (a + 96) % 256;
            flag(C, true);
        }
        flag(AUX, carryFromBit3);
        szp(a);
    }

    private void calculate(int k, int s) {
        int carry = has(C) ? 1 : 0;
        int before = a;
        switch (k) {
            case 0 -> add(s, 0);
            case 1 -> add(s, carry);
            case 2, 7 -> {
                add(255 - s, 1);
                flag(C, before < s);
            }
            case 3 -> {
                add(255 - s, 1 - carry);
                flag(C, before < s + carry);
            }
            case 4 -> {
                flag(C, false);
                flag(AUX, before % 16 >= 8 || s % 16 >= 8);
                a = before & s;
            }
            default -> {
                flag(C, false);
                flag(AUX, false);
                a = k == 5 ? before ^ s : before | s;
            }
        }
        szp(a);
        if (k == 7) {
            a = before;
        }
    }

    private void add(int s, int one) {
        flag(AUX, a % 16 + s % 16 + one >= 16);
        flag(C, a + s + one >= 256);
        a = (a + s + one) % 256;
    }

    private boolean holds(int condition) {
        return switch (condition) {
            case 0 -> !has(Z);
            case 1 -> has(Z);
            case 2 -> !has(C);
            case 3 -> has(C);
            case 4 -> !has(P);
            case 5 -> has(P);
            case 6 -> !has(S);
            default -> has(S);
        };
    }

    private void last(int code) {
        int middle = (code - 0xC0) / 8;
        switch (code) {
            case 0xC2, 0xCA, 0xD2, 0xDA, 0xE2, 0xEA, 0xF2, 0xFA -> {
                int address = nn();
                pc = holds(middle) ? address : pc;
            }
            case 0xC3, 0xCB -> pc = nn();
            case 0xC4, 0xCC, 0xD4, 0xDC, 0xE4, 0xEC, 0xF4, 0xFC -> {
                int address = nn();
                if (holds(middle)) {
                    push(pc / 256, pc % 256);
                    pc = address;
                    states += TAKEN_MORE;
                }
            }
            case 0xCD, 0xDD, 0xED, 0xFD -> {
                int address = nn();
                push(pc / 256, pc % 256);
                pc = address;
            }
            case 0xC0, 0xC8, 0xD0, 0xD8, 0xE0, 0xE8, 0xF0, 0xF8 -> {
                if (holds(middle)) {
                    pc = pop();
                    states += TAKEN_MORE;
                }
            }
            case 0xC9, 0xD9 -> pc = pop();
            case 0xC7, 0xCF, 0xD7, 0xDF, 0xE7, 0xEF, 0xF7, 0xFF -> {
                push(pc / 256, pc % 256);
                pc = 8 * middle;
            }
            case 0xC1, 0xD1, 0xE1 -> putPair(middle / 2, pop());
            case 0xF1 -> {
                int both = pop();
                a = both / 256;
                put(8, both % 256);
            }
            case 0xC5 -> push(b, c);
            case 0xD5 -> push(d, e);
            case 0xE5 -> push(h, l);
            case 0xF5 -> push(a, flags);
            case 0xC6, 0xCE, 0xD6, 0xDE, 0xE6, 0xEE, 0xF6, 0xFE -> calculate(middle, n());
            default -> lastAlone(code);
        }
    }

    private void lastAlone(int code) {
        switch (code) {
            case 0xD3 -> puts[n()] = a;
            case 0xDB -> a = brings[n()];
            case 0xE3 -> {
                int hl = pair(2);
                putPair(2, pop());
                push(hl / 256, hl % 256);
            }
            case 0xE9 -> pc = pair(2);
            case 0xEB -> {
                int hl = pair(2);
                putPair(2, pair(1));
                putPair(1, hl);
            }
            case 0xF9 -> sp = pair(2);
            case 0xF3 -> inte = false;
            default -> inte = true;
        }
    }
}
