/** Every calculation on bytes, for every pair of bytes and every flag that it looks at, against sums done bit by bit. */
public final class ArithmeticTest {
    private static final int SIGN = 0x80;
    private static final int ZERO = 0x40;
    private static final int AUXILIARY = 0x10;
    private static final int PARITY = 0x04;
    private static final int ALWAYS = 0x02;
    private static final int CARRY = 0x01;
    private static final int ALL = SIGN | ZERO | AUXILIARY | PARITY | ALWAYS | CARRY;

    private static PortProcessor processor;
    private static int calls;

    private static int sum;
    private static boolean carryOfBit3;
    private static boolean carryOfBit7;

    public static void main(String[] args) {
        for (int k = 0; k < 8; k++) {
            for (int a = 0; a < 256; a++) {
                for (int s = 0; s < 256; s++) {
                    combines(k, a, s, 0);
                    combines(k, a, s, ALL);
                }
            }
        }
        for (int a = 0; a < 256; a++) {
            for (int flags = 0; flags < 256; flags++) {
                raisesAndLowers(a, flags);
                turns(a, flags);
                makesDecimal(a, flags);
                worksOnCarry(a, flags);
            }
        }
        Check.finish();
    }

    private static void combines(int k, int a, int s, int flagsBefore) {
        int carryIn = flagsBefore & CARRY;
        int result;
        int flags = 0;
        switch (k) {
            case 0:
                add(a, s, 0);
                result = sum;
                flags = (carryOfBit7 ? CARRY : 0) | (carryOfBit3 ? AUXILIARY : 0);
                break;
            case 1:
                add(a, s, carryIn);
                result = sum;
                flags = (carryOfBit7 ? CARRY : 0) | (carryOfBit3 ? AUXILIARY : 0);
                break;
            case 4:
                result = a & s;
                flags = (a & 8) != 0 || (s & 8) != 0 ? AUXILIARY : 0;
                break;
            case 5:
                result = a ^ s;
                break;
            case 6:
                result = a | s;
                break;
            default:
                int borrowed = k == 3 ? carryIn : 0;
                add(a, 255 - s, 1 - borrowed);
                result = sum;
                flags = (a < s + borrowed ? CARRY : 0) | (carryOfBit3 ? AUXILIARY : 0);
                break;
        }
        flags |= ofResult(result);
        int aThen = k == 7 ? a : result;
        String what = "calculation " + k + " of " + a + " and " + s + " with flags " + flagsBefore;
        ready(0x80 + 8 * k, 0, a, flagsBefore);
        processor.set(0, s);
        processor.run(1);
        agree(what, aThen, flags);
        ready(0xC6 + 8 * k, s, a, flagsBefore);
        processor.run(1);
        agree(what + " (n)", aThen, flags);
    }

    private static void raisesAndLowers(int a, int flagsBefore) {
        int raised = a == 255 ? 0 : a + 1;
        ready(0x3C, 0, a, flagsBefore);
        processor.run(1);
        agree(a + " raised", raised, ofResult(raised) | (raised % 16 == 0 ? AUXILIARY : 0) | flagsBefore & CARRY);
        int lowered = a == 0 ? 255 : a - 1;
        ready(0x3D, 0, a, flagsBefore);
        processor.run(1);
        agree(a + " lowered", lowered, ofResult(lowered) | (lowered % 16 != 15 ? AUXILIARY : 0) | flagsBefore & CARRY);
    }

    private static void turns(int a, int flagsBefore) {
        int carryIn = flagsBefore & CARRY;
        int others = flagsBefore & ALL & ~CARRY | ALWAYS;
        int highest = a / 128;
        int lowest = a % 2;
        int[] results = {a * 2 % 256 + highest, a / 2 + lowest * 128, a * 2 % 256 + carryIn, a / 2 + carryIn * 128};
        for (int way = 0; way < 4; way++) {
            ready(0x07 + 8 * way, 0, a, flagsBefore);
            processor.run(1);
            agree(a + " turned in way " + way, results[way], others | (way % 2 == 0 ? highest : lowest));
        }
    }

    private static void makesDecimal(int a, int flagsBefore) {
        int result = a;
        boolean carryOfFirst = false;
        boolean auxiliaryThen = false;
        if (a % 16 > 9 || (flagsBefore & AUXILIARY) != 0) {
            add(a, 6, 0);
            result = sum;
            carryOfFirst = carryOfBit7;
            auxiliaryThen = carryOfBit3;
        }
        boolean carryThen = result / 16 > 9 || (flagsBefore & CARRY) != 0 || carryOfFirst;
        if (carryThen) {
            result = (result + 96) % 256;
        }
        ready(0x27, 0, a, flagsBefore);
        processor.run(1);
        int flags = ofResult(result) | (auxiliaryThen ? AUXILIARY : 0) | (carryThen ? CARRY : 0);
        agree(a + " made decimal with flags " + flagsBefore, result, flags);
    }

    private static void worksOnCarry(int a, int flagsBefore) {
        int kept = flagsBefore & ALL | ALWAYS;
        ready(0x2F, 0, a, flagsBefore);
        processor.run(1);
        agree(a + " turned over", a ^ 255, kept);
        ready(0x37, 0, a, flagsBefore);
        processor.run(1);
        agree("C made 1", a, kept | CARRY);
        ready(0x3F, 0, a, flagsBefore);
        processor.run(1);
        agree("C turned over", a, kept ^ CARRY);
    }

    private static void add(int a, int s, int carryIn) {
        sum = 0;
        int carry = carryIn;
        for (int bit = 0; bit < 8; bit++) {
            int ones = (a >> bit & 1) + (s >> bit & 1) + carry;
            sum |= (ones & 1) << bit;
            carry = ones >> 1;
            if (bit == 3) {
                carryOfBit3 = carry == 1;
            }
        }
        carryOfBit7 = carry == 1;
    }

    private static int ofResult(int result) {
        int ones = 0;
        for (int bit = 0; bit < 8; bit++) {
            ones += result >> bit & 1;
        }
        return ALWAYS | (result > 127 ? SIGN : 0) | (result == 0 ? ZERO : 0) | (ones % 2 == 0 ? PARITY : 0);
    }

    /** An object answers for 512 calls only, so a new one is taken in good time. */
    private static void ready(int code, int n, int a, int flags) {
        if (processor == null || calls > 500) {
            processor = new PortProcessor();
            calls = 0;
        }
        calls += 8;
        processor.load(0, code << 8 | n, 2);
        processor.start(0);
        processor.set(7, a);
        processor.set(8, flags);
    }

    private static void agree(String what, int a, int flags) {
        if (processor.register(7) != a || processor.register(8) != flags) {
            Check.same(what + ": A", processor.register(7), a);
            Check.same(what + ": flags", processor.register(8), flags);
        }
    }
}
