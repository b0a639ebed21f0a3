/** Promise 12, the instructions of xx 2 and of z 6, over all pairs of bytes, and the decimal one. */
public final class ArithmeticTest {
    private static final int HALF = 0x10;
    private static final int CARRY = 1;
    private static final int CALLS_OF_ONE = 8;

    private static Machine machine = new Machine();

    public static void main(String[] args) {
        everyOperationOverAllBytes();
        everyRegisterIsTaken();
        accumulatorWithItself();
        turnsOverAllBytes();
        decimalOverAllStates();
        decimalSums();
        decimalByHand();
        Checks.end();
    }

    static int logic(int b) {
        int ones = 0;
        for (int bit = 1; bit < 256; bit *= 2) {
            ones += (b & bit) != 0 ? 1 : 0;
        }
        return (b > 127 ? 0x80 : 0) + (b == 0 ? 0x40 : 0) + (ones % 2 == 0 ? 4 : 0) + 2;
    }

    /** A in the higher byte, flags in the lower one. */
    private static int due(int y, int a, int b, int carry) {
        int with = y == 1 || y == 3 ? carry : 0;
        int result;
        int flags = 0;
        if (y < 2) {
            result = (a + b + with) % 256;
            flags += a + b + with >= 256 ? CARRY : 0;
            flags += a % 16 + b % 16 + with >= 16 ? HALF : 0;
        } else if (y < 4 || y == 7) {
            result = (a + 256 - b - with) % 256;
            flags += a < b + with ? CARRY : 0;
            flags += a % 16 >= b % 16 + with ? HALF : 0;
        } else {
            result = y == 4 ? a & b : y == 5 ? a + b - 2 * (a & b) : a + b - (a & b);
            flags += y == 4 && (a / 8 % 2 == 1 || b / 8 % 2 == 1) ? HALF : 0;
        }
        return (y == 7 ? a : result) * 256 + flags + logic(result);
    }

    private static int perform(int code, int a, int flags) {
        return perform(code, 0, a, flags);
    }

    private static int perform(int code, int b, int a, int flags) {
        if (!machine.hasCallsLeft(CALLS_OF_ONE)) {
            machine = new Machine();
        }
        machine.put(0, b);
        machine.put(8, 0x100);
        machine.write(0x100, code);
        return performed(a, flags);
    }

    private static int performed(int a, int flags) {
        machine.put(7, a);
        machine.put(6, flags);
        machine.step(1);
        return machine.register(7) * 256 + machine.register(6);
    }

    private static void everyOperationOverAllBytes() {
        for (int y = 0; y < 8; y++) {
            for (int a = 0; a < 256; a++) {
                for (int b = 0; b < 256; b++) {
                    for (int carry = 0; carry < 2; carry++) {
                        int flags = carry + (a + b & 1) * 0xD4;
                        String name = "operation " + y + " of " + a + ", " + b + ", " + carry;
                        Checks.same(name, perform(0x80 + 8 * y, b, a, flags),
                            due(y, a, b, carry));
                    }
                }
            }
        }
    }

    private static void everyRegisterIsTaken() {
        for (int y = 0; y < 8; y++) {
            for (int z = 0; z < 7; z++) {
                machine = Programs.machineWith(Programs.hex(0x80 + 8 * y + z));
                for (int k = 0; k < 6; k++) {
                    machine.put(k, 0x1B + 0x0D * k);
                }
                int place = (machine.register(4) * 256 + machine.register(5)) % 4096;
                machine.write(place, 0xE7);
                int b = z == 6 ? 0xE7 : 0x1B + 0x0D * z;
                String name = "operation " + y + " with register " + z;
                Checks.same(name, performed(0x5A, 1), due(y, 0x5A, b, 1));
                Checks.same(name + ", which stays", z == 6 ? machine.read(place)
                    : machine.register(z), b);
            }
            machine = Programs.machineWith(Programs.hex(0xC6 + 8 * y) + " B9");
            Checks.same("operation " + y + " with n", performed(0x5A, 1), due(y, 0x5A, 0xB9, 1));
            Checks.same("PC behind n", machine.register(8), 0x102);
        }
    }

    private static void accumulatorWithItself() {
        for (int y = 0; y < 8; y++) {
            for (int a = 0; a < 256; a++) {
                Checks.same("operation " + y + " of A with itself",
                    perform(0x87 + 8 * y, a, 1), due(y, a, a, 1));
            }
        }
    }

    private static void turnsOverAllBytes() {
        for (int a = 0; a < 256; a++) {
            for (int carry = 0; carry < 2; carry++) {
                int flags = 0xD6 + carry;
                int top = a / 128;
                int low = a % 2;
                int left = a * 2 % 256;
                int right = a / 2;
                String name = "turn of " + a + " with " + carry + ", ";
                Checks.same(name + 0, perform(0x07, a, flags), (left + top) * 256 + 0xD6 + top);
                Checks.same(name + 1, perform(0x0F, a, flags), (right + 128 * low) * 256 + 0xD6 + low);
                Checks.same(name + 2, perform(0x17, a, flags), (left + carry) * 256 + 0xD6 + top);
                Checks.same(name + 3, perform(0x1F, a, flags), (right + 128 * carry) * 256 + 0xD6 + low);
                Checks.same(name + 5, perform(0x2F, a, flags), (255 - a) * 256 + flags);
            }
        }
    }

    private static void decimalOverAllStates() {
        for (int a = 0; a < 256; a++) {
            for (int flags = 0; flags < 4; flags++) {
                boolean half = flags >= 2;
                boolean carry = flags % 2 == 1;
                boolean six = a % 16 > 9 || half;
                // Above 0x99 is another way to say: h above 9, or h 9 and l above 9.
                boolean sixty = a > 0x99 || carry;
                int result = (a + (six ? 6 : 0) + (sixty ? 0x60 : 0)) % 256;
                int due = result * 256 + logic(result) + (sixty ? CARRY : 0)
                    + (a % 16 > 9 ? HALF : 0);
                Checks.same("decimal of " + a + " with " + flags,
                    perform(0x27, a, (half ? HALF : 0) + (carry ? CARRY : 0)), due);
            }
        }
    }

    private static void decimalSums() {
        for (int a = 0; a < 100; a++) {
            for (int b = 0; b < 100; b++) {
                int total = perform(0x80, b / 10 * 16 + b % 10, a / 10 * 16 + a % 10, 0);
                int got = perform(0x27, total / 256, total % 256);
                int due = (a + b) % 100;
                Checks.same("decimal sum", got / 256, due / 10 * 16 + due % 10);
                Checks.same("decimal carry", got & 1, (a + b) / 100);
            }
        }
    }

    private static void decimalByHand() {
        Checks.same("9A", perform(0x27, 0x9A, 0x02), 0x0057);
        Checks.same("99", perform(0x27, 0x99, 0x02), 0x9986);
        Checks.same("90", perform(0x27, 0x90, 0x02), 0x9086);
        Checks.same("A0", perform(0x27, 0xA0, 0x02), 0x0047);
        Checks.same("0A", perform(0x27, 0x0A, 0x02), 0x1012);
        Checks.same("03 with half", perform(0x27, 0x03, 0x12), 0x0906);
        Checks.same("00 with carry", perform(0x27, 0x00, 0x03), 0x6007);
        Checks.same("FF with both", perform(0x27, 0xFF, 0x13), 0x6517);
    }
}
