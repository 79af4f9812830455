/**
 * "BYTES are 0 .. 255, sums of them modulo 256", and the bounds at which the flags turn. All that is due here was
 * worked out by hand from the document: bit 7 of the flags' byte is S, 6 Z, 4 A, 2 P, 0 C, and bit 1 is always 1.
 */
public final class EdgeOfBytesTest {
    private static final int CARRY = 0x01;
    private static final int AUXILIARY = 0x10;
    private static final int ALL = 0xD5;

    public static void main(String[] args) {
        registersRise();
        registersFall();
        adds();
        addsWithCarry();
        subtracts();
        subtractsWithBorrow();
        compares();
        ands();
        exclusiveOrs();
        ors();
        makesDecimal();
        turns();
        turnsThroughCarry();
        turnsOver();
        conditionsTurn();
        flagsAsAByte();
        becomesTheLeastAndTheMost();
        Check.finish();
    }

    /** "d rises by 1: S Z P A (whether the lower four bits are 0 then)"; C stays. */
    private static void registersRise() {
        int[][] cases = {
            {0, 1, 0x02}, {254, 255, 0x86}, {255, 0, 0x56}, {126, 127, 0x02}, {127, 128, 0x92},
            {14, 15, 0x06}, {15, 16, 0x12}, {16, 17, 0x06}, {239, 240, 0x96},
        };
        for (int d = 0; d < 8; d++) {
            for (int[] c : cases) {
                changes(0x04 + 8 * d, d, c);
            }
        }
    }

    /** "05 + 8 d: falls: S Z P A (whether they are not 15 then)"; C stays. */
    private static void registersFall() {
        int[][] cases = {
            {0, 255, 0x86}, {1, 0, 0x56}, {255, 254, 0x92}, {129, 128, 0x92}, {128, 127, 0x02},
            {17, 16, 0x12}, {16, 15, 0x06}, {15, 14, 0x12}, {240, 239, 0x82},
        };
        for (int d = 0; d < 8; d++) {
            for (int[] c : cases) {
                changes(0x05 + 8 * d, d, c);
            }
        }
    }

    private static void changes(int code, int d, int[] c) {
        int[] flagBytes = {0, CARRY, ALL & ~CARRY, ALL};
        for (int flags : flagBytes) {
            PortProcessor processor = ready(code);
            putInto(processor, d, c[0]);
            processor.set(8, flags);
            processor.run(1);
            String what = Integer.toHexString(code) + " of " + c[0];
            Check.same(what, processor.register(d), c[1]);
            Check.same(what + ": flags", processor.register(8), c[2] | flags & CARRY);
        }
    }

    /** "0 A + s: S Z P, C carry, A carry from bit 3". */
    private static void adds() {
        combines(0, 0, 0, 0, 0x46);
        combines(0, 254, 1, 255, 0x86);
        combines(0, 255, 0, 255, 0x86);
        combines(0, 255, 1, 0, 0x57);
        combines(0, 1, 255, 0, 0x57);
        combines(0, 255, 255, 254, 0x93);
        combines(0, 127, 0, 127, 0x02);
        combines(0, 127, 1, 128, 0x92);
        combines(0, 128, 128, 0, 0x47);
        combines(0, 7, 8, 15, 0x06);
        combines(0, 8, 8, 16, 0x12);
    }

    /** "1 A + s + C". */
    private static void addsWithCarry() {
        combines(1, 255, 0, 0, 255, 0x86);
        combines(1, 255, 0, 1, 0, 0x57);
        combines(1, 0, 255, 1, 0, 0x57);
        combines(1, 254, 0, 1, 255, 0x86);
        combines(1, 255, 255, 0, 254, 0x93);
        combines(1, 255, 255, 1, 255, 0x97);
        combines(1, 127, 127, 1, 255, 0x96);
        combines(1, 127, 0, 1, 128, 0x92);
        combines(1, 14, 0, 1, 15, 0x06);
        combines(1, 15, 0, 1, 16, 0x12);
        combines(1, 7, 8, 0, 15, 0x06);
        combines(1, 7, 8, 1, 16, 0x12);
        combines(1, 8, 15, 1, 24, 0x16);
    }

    /** "2 A - s: C borrow, A carry from bit 3 of A + (255 - s) + 1". */
    private static void subtracts() {
        combines(2, 0, 0, 0, 0x56);
        combines(2, 0, 1, 255, 0x87);
        combines(2, 1, 1, 0, 0x56);
        combines(2, 1, 2, 255, 0x87);
        combines(2, 255, 255, 0, 0x56);
        combines(2, 254, 255, 255, 0x87);
        combines(2, 255, 254, 1, 0x12);
        combines(2, 0, 255, 1, 0x03);
        combines(2, 128, 1, 127, 0x02);
        combines(2, 127, 128, 255, 0x97);
        combines(2, 16, 0, 16, 0x12);
        combines(2, 16, 1, 15, 0x06);
        combines(2, 15, 16, 255, 0x97);
    }

    /** "3 A - s - C: (subtractions: of A + (255 - s) + 1 - C)". */
    private static void subtractsWithBorrow() {
        combines(3, 0, 0, 0, 0, 0x56);
        combines(3, 0, 0, 1, 255, 0x87);
        combines(3, 1, 0, 1, 0, 0x56);
        combines(3, 5, 5, 0, 0, 0x56);
        combines(3, 5, 5, 1, 255, 0x87);
        combines(3, 6, 5, 1, 0, 0x56);
        combines(3, 0, 255, 0, 1, 0x03);
        combines(3, 0, 255, 1, 0, 0x47);
        combines(3, 255, 255, 0, 0, 0x56);
        combines(3, 255, 255, 1, 255, 0x87);
        combines(3, 255, 254, 1, 0, 0x56);
        combines(3, 128, 0, 1, 127, 0x02);
        combines(3, 16, 0, 0, 16, 0x12);
        combines(3, 16, 0, 1, 15, 0x06);
    }

    /** "7 as 2, but A stays". */
    private static void compares() {
        combines(7, 0, 0, 0, 0x56);
        combines(7, 0, 1, 0, 0x87);
        combines(7, 1, 1, 1, 0x56);
        combines(7, 1, 2, 1, 0x87);
        combines(7, 255, 255, 255, 0x56);
        combines(7, 254, 255, 254, 0x87);
        combines(7, 255, 254, 255, 0x12);
        combines(7, 0, 255, 0, 0x03);
        combines(7, 128, 1, 128, 0x02);
        combines(7, 127, 128, 127, 0x97);
    }

    /** "4 A & s: C 0, A whether bit 3 of A or of s is 1". */
    private static void ands() {
        combines(4, 0, 0, 0, 0x46);
        combines(4, 0, 8, 0, 0x56);
        combines(4, 8, 0, 0, 0x56);
        combines(4, 8, 8, 8, 0x12);
        combines(4, 0xF7, 0xF7, 0xF7, 0x82);
        combines(4, 0x07, 0x70, 0, 0x46);
        combines(4, 255, 0, 0, 0x56);
        combines(4, 255, 255, 255, 0x96);
        combines(4, 0x80, 0xFF, 0x80, 0x92);
        combines(4, 0x7F, 0xF7, 0x77, 0x16);
    }

    /** "5 A ^ s: C and A 0". */
    private static void exclusiveOrs() {
        combines(5, 0, 0, 0, 0x46);
        combines(5, 255, 255, 0, 0x46);
        combines(5, 255, 0, 255, 0x86);
        combines(5, 0, 255, 255, 0x86);
        combines(5, 0x7F, 0xFF, 0x80, 0x82);
        combines(5, 8, 0, 8, 0x02);
    }

    /** "6 A | s: C and A 0". */
    private static void ors() {
        combines(6, 0, 0, 0, 0x46);
        combines(6, 255, 0, 255, 0x86);
        combines(6, 0, 255, 255, 0x86);
        combines(6, 0x01, 0x80, 0x81, 0x86);
        combines(6, 0x7F, 0, 0x7F, 0x02);
        combines(6, 8, 8, 8, 0x02);
    }

    /** A calculation that does not look at C. */
    private static void combines(int k, int a, int s, int aThen, int flagsThen) {
        combines(k, a, s, 0, aThen, flagsThen);
        combines(k, a, s, 1, aThen, flagsThen);
    }

    private static void combines(int k, int a, int s, int carry, int aThen, int flagsThen) {
        int[] flagBytes = {carry, ALL & ~CARRY | carry};
        for (int flags : flagBytes) {
            for (int source = 0; source < 7; source++) {
                PortProcessor processor = ready(0x80 + 8 * k + source);
                putInto(processor, source, s);
                combined(processor, k, a, s, flags, aThen, flagsThen);
                Check.same("the source " + source + " stays", processor.register(source), s);
            }
            if (a == s) {
                combined(ready(0x87 + 8 * k), k, a, s, flags, aThen, flagsThen);
            }
            combined(ready(0xC6 + 8 * k, s), k, a, s, flags, aThen, flagsThen);
        }
    }

    private static void combined(PortProcessor processor, int k, int a, int s, int flags, int aThen, int flagsThen) {
        processor.set(7, a);
        processor.set(8, flags);
        processor.run(1);
        String what = "calculation " + k + " of " + a + " and " + s + " with flags " + flags;
        Check.same(what, processor.register(7), aThen);
        Check.same(what + ": flags", processor.register(8), flagsThen);
    }

    /** "27": 9 and 10 in the lower four bits, 9 and 10 in the higher ones, A(uxiliary), C, and a carry of the first. */
    private static void makesDecimal() {
        int[][] cases = {
            {0x00, 0, 0x00, 0x46}, {0x09, 0, 0x09, 0x06}, {0x0A, 0, 0x10, 0x12}, {0x0F, 0, 0x15, 0x12},
            {0x90, 0, 0x90, 0x86}, {0x99, 0, 0x99, 0x86}, {0x9A, 0, 0x00, 0x57}, {0x9F, 0, 0x05, 0x17},
            {0xA0, 0, 0x00, 0x47}, {0xF9, 0, 0x59, 0x07}, {0xFA, 0, 0x60, 0x17}, {0xFF, 0, 0x65, 0x17},
            {0x00, AUXILIARY, 0x06, 0x06}, {0x09, AUXILIARY, 0x0F, 0x06}, {0x0A, AUXILIARY, 0x10, 0x12},
            {0x99, AUXILIARY, 0x9F, 0x86}, {0x9A, AUXILIARY, 0x00, 0x57}, {0xF9, AUXILIARY, 0x5F, 0x07},
            {0xFA, AUXILIARY, 0x60, 0x17},
            {0x00, CARRY, 0x60, 0x07}, {0x09, CARRY, 0x69, 0x07}, {0x0A, CARRY, 0x70, 0x13}, {0x99, CARRY, 0xF9, 0x87},
            {0x9F, CARRY, 0x05, 0x17}, {0xA0, CARRY, 0x00, 0x47},
            {0x00, AUXILIARY | CARRY, 0x66, 0x07}, {0x99, AUXILIARY | CARRY, 0xFF, 0x87},
            {0xFF, AUXILIARY | CARRY, 0x65, 0x17},
        };
        for (int[] c : cases) {
            int[] flagBytes = {c[1], c[1] | 0xC4};
            for (int flags : flagBytes) {
                PortProcessor processor = ready(0x27);
                processor.set(7, c[0]);
                processor.set(8, flags);
                processor.run(1);
                String what = "27 of " + Integer.toHexString(c[0]) + " with flags " + flags;
                Check.same(what, processor.register(7), c[2]);
                Check.same(what + ": flags", processor.register(8), c[3]);
            }
        }
    }

    /** "07: A turns to the left, C is the bit that came in at the right; 0F to the right, C what came in at the left". */
    private static void turns() {
        int[][] cases = {
            {0x07, 0x00, 0x00, 0}, {0x07, 0x80, 0x01, 1}, {0x07, 0x7F, 0xFE, 0}, {0x07, 0xFF, 0xFF, 1}, {0x07, 0x01, 0x02, 0},
            {0x0F, 0x00, 0x00, 0}, {0x0F, 0x01, 0x80, 1}, {0x0F, 0xFE, 0x7F, 0}, {0x0F, 0xFF, 0xFF, 1}, {0x0F, 0x80, 0x40, 0},
        };
        for (int[] c : cases) {
            turned(c[0], c[1], 0, c[2], c[3]);
            turned(c[0], c[1], 1, c[2], c[3]);
        }
    }

    /** "17, 1F likewise through C". */
    private static void turnsThroughCarry() {
        turned(0x17, 0x00, 0, 0x00, 0);
        turned(0x17, 0x00, 1, 0x01, 0);
        turned(0x17, 0x80, 0, 0x00, 1);
        turned(0x17, 0x80, 1, 0x01, 1);
        turned(0x17, 0x7F, 0, 0xFE, 0);
        turned(0x17, 0xFF, 1, 0xFF, 1);
        turned(0x1F, 0x00, 0, 0x00, 0);
        turned(0x1F, 0x00, 1, 0x80, 0);
        turned(0x1F, 0x01, 0, 0x00, 1);
        turned(0x1F, 0x01, 1, 0x80, 1);
        turned(0x1F, 0xFE, 0, 0x7F, 0);
        turned(0x1F, 0xFF, 1, 0xFF, 1);
    }

    private static void turned(int code, int a, int carry, int aThen, int carryThen) {
        int[] others = {0, ALL & ~CARRY};
        for (int other : others) {
            PortProcessor processor = ready(code);
            processor.set(7, a);
            processor.set(8, other | carry);
            processor.run(1);
            String what = Integer.toHexString(code) + " of " + a + " with C " + carry;
            Check.same(what, processor.register(7), aThen);
            Check.same(what + ": flags", processor.register(8), other | 2 | carryThen);
        }
    }

    /** "2F: all bits of A turned over; 37: C becomes 1; 3F: C turned over". */
    private static void turnsOver() {
        turned(0x2F, 0, 0, 255, 0);
        turned(0x2F, 0, 1, 255, 1);
        turned(0x2F, 255, 0, 0, 0);
        turned(0x2F, 255, 1, 0, 1);
        turned(0x37, 5, 0, 5, 1);
        turned(0x37, 5, 1, 5, 1);
        turned(0x3F, 5, 0, 5, 1);
        turned(0x3F, 5, 1, 5, 0);
    }

    /** "Conditions c: NZ Z NC C PO PE P M", behind sums at which the flags turn. */
    private static void conditionsTurn() {
        holds(0, 0, "Z NC PE P");
        holds(0, 1, "NZ NC PO P");
        holds(127, 0, "NZ NC PO P");
        holds(127, 1, "NZ NC PO M");
        holds(254, 1, "NZ NC PE M");
        holds(255, 0, "NZ NC PE M");
        holds(255, 1, "Z C PE P");
        holds(255, 255, "NZ C PO M");
    }

    private static void holds(int a, int s, String due) {
        String[] names = {"NZ", "Z", "NC", "C", "PO", "PE", "P", "M"};
        for (int c = 0; c < 8; c++) {
            boolean met = (" " + due + " ").contains(" " + names[c] + " ");
            String what = names[c] + " behind " + a + " + " + s;
            goes(what + ", jump", a, s, 0xC2 + 8 * c, met ? 0x234 : 0x185, 900, 10);
            goes(what + ", call", a, s, 0xC4 + 8 * c, met ? 0x234 : 0x185, met ? 898 : 900, met ? 17 : 11);
            goes(what + ", return", a, s, 0xC0 + 8 * c, met ? 0x166 : 0x183, met ? 902 : 900, met ? 11 : 5);
        }
    }

    private static void goes(String what, int a, int s, int code, int pc, int sp, int states) {
        PortProcessor processor = ready(0xC6, s, code, 0x34, 0x02);
        processor.load(900, 0x6601, 2);
        processor.set(7, a);
        processor.set(9, 900);
        processor.run(2);
        Check.same(what + ": PC", processor.register(10), pc);
        Check.same(what + ": SP", processor.register(9), sp);
        Check.same(what + ": states()", processor.states(), 7 + states);
    }

    /** "as a byte: bit 5 0, 3 0, 1 1", and "popped: only their five bits count". */
    private static void flagsAsAByte() {
        int[][] cases = {{0x00, 0x02}, {0xFF, 0xD7}, {0x2A, 0x02}, {0x28, 0x02}, {0xD5, 0xD7}};
        for (int[] c : cases) {
            PortProcessor processor = ready(0xF5);
            processor.set(8, c[0]);
            processor.set(9, 900);
            Check.same("register(8) set to " + c[0], processor.register(8), c[1]);
            processor.run(1);
            Check.same("the byte pushed, set to " + c[0], processor.peek(898), c[1]);
            PortProcessor popping = ready(0xF1);
            popping.set(9, 900);
            popping.load(900, c[0], 1);
            popping.run(1);
            Check.same("register(8) popped from " + c[0], popping.register(8), c[1]);
        }
        for (int bit = 0; bit < 8; bit++) {
            PortProcessor processor = ready(0x00);
            processor.set(8, 1 << bit);
            Check.same("bit " + bit + " set alone", processor.register(8), 1 << bit & ALL | 2);
        }
    }

    /** "d becomes n", for the least and the most byte. */
    private static void becomesTheLeastAndTheMost() {
        int[] values = {0, 255};
        for (int d = 0; d < 8; d++) {
            for (int value : values) {
                PortProcessor processor = ready(0x06 + 8 * d, value);
                putInto(processor, d, 0x77);
                processor.set(8, ALL);
                processor.run(1);
                Check.same("register " + d, processor.register(d), value);
                Check.same("flags", processor.register(8), 0xD7);
            }
        }
    }

    /** The program lies away from 0x300, where M is put. */
    private static PortProcessor ready(int... program) {
        PortProcessor processor = new PortProcessor();
        Check.place(processor, 0x180, program);
        processor.start(0x180);
        return processor;
    }

    private static void putInto(PortProcessor processor, int register, int value) {
        if (register == 6) {
            Pairs.set(processor, Pairs.HL, 0x300);
            processor.load(0x300, value, 1);
        } else {
            processor.set(register, value);
        }
    }
}
