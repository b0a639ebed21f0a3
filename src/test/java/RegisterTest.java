/** Promises 6 and 7: register and put. */
public final class RegisterTest {
    private static final int[] VALUES = {0, 1, 0x7F, 0x80, 0xFF, 0x100, 0x1234, 0xFFFF, 0x10000,
        0x12345678, -1, -2, -43, Integer.MIN_VALUE, Integer.MAX_VALUE};

    public static void main(String[] args) {
        putChangesOneRegister();
        flagsKeepTheirForm();
        putLeavesTheRest();
        pairsAreMadeOfRegisters();
        Checks.end();
    }

    private static int due(int k, int v) {
        if (k == 6) {
            return v & 0xD5 | 2;
        }
        return k < 8 ? v & 0xFF : v & 0xFFFF;
    }

    private static void putChangesOneRegister() {
        Checks.sentence("Promise 7: register k becomes the lowest bits of v");
        for (int k = 0; k < 10; k++) {
            for (int v : VALUES) {
                Machine machine = new Machine();
                for (int other = 0; other < 10; other++) {
                    machine.put(other, 0x4141 + other);
                }
                machine.put(k, v);
                for (int other = 0; other < 10; other++) {
                    int put = other == k ? v : 0x4141 + other;
                    Checks.same("register " + other + " behind put(" + k + ", " + v + ")",
                        machine.register(other), due(other, put));
                }
                Checks.same("memory behind put(" + k + ", " + v + ")", machine.sum(), 0);
            }
        }
    }

    private static void flagsKeepTheirForm() {
        Checks.sentence("Terms: bit 1 is 1, others 0");
        for (int v = 0; v < 256; v++) {
            Machine machine = new Machine();
            machine.put(6, v);
            Checks.same("flags " + v, machine.register(6), v & 0xD5 | 2);
        }
    }

    private static void putLeavesTheRest() {
        Checks.sentence("Promise 14: put() doesn't change that");
        Machine machine = Programs.machineWith("FB 76");
        machine.step(2);
        machine.want(3);
        for (int k = 0; k < 10; k++) {
            machine.put(k, 0x200);
        }
        Checks.same("halted behind put", machine.told(0), 1);
        Checks.same("on behind put", machine.told(1), 1);
        Checks.same("wanted behind put", machine.told(2), 3);
        Checks.same("cycles behind put", machine.cycles(), 11);
    }

    private static void pairsAreMadeOfRegisters() {
        Checks.sentence("Promise 6: 0 to 5 and 7 as told, 8 PC, 9 SP");
        Machine machine = Programs.machineWith("01 02 01 11 04 03 21 06 05 31 08 07 3E 09");
        machine.step(5);
        int[] due = {1, 2, 3, 4, 5, 6, 2, 9, 0x10E, 0x0708};
        for (int k = 0; k < 10; k++) {
            Checks.same("register " + k, machine.register(k), due[k]);
        }
    }
}
