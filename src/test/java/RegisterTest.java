/** Promises 6 and 7: register and put. */
public final class RegisterTest {
    private static final int[] WRONG = {-1, 10, Integer.MIN_VALUE, Integer.MAX_VALUE};
    private static final int[] VALUES = {0, 1, 0x7F, 0x80, 0xFF, 0x100, 0x1234, 0xFFFF, 0x10000,
        0x12345678, -1, -2, -43, Integer.MIN_VALUE, Integer.MAX_VALUE};

    public static void main(String[] args) {
        putChangesOneRegister();
        flagsKeepTheirForm();
        wrongNumbersChangeNothing();
        putLeavesTheRest();
        Checks.end();
    }

    private static int due(int k, int v) {
        if (k == 6) {
            return v & 0xD5 | 2;
        }
        return k < 8 ? v & 0xFF : v & 0xFFFF;
    }

    private static void putChangesOneRegister() {
        for (int k = 0; k < 10; k++) {
            for (int v : VALUES) {
                DiskMachine machine = new DiskMachine();
                for (int other = 0; other < 10; other++) {
                    machine.put(other, 0x4141 + other);
                }
                machine.put(k, v);
                for (int other = 0; other < 10; other++) {
                    int put = other == k ? v : 0x4141 + other;
                    Checks.same("register " + other + " behind put(" + k + ", " + v + ")",
                        machine.register(other), due(other, put));
                }
            }
        }
    }

    private static void flagsKeepTheirForm() {
        DiskMachine machine = new DiskMachine();
        for (int v = 0; v < 256; v++) {
            machine.put(6, v);
            Checks.same("flags " + v, machine.register(6), v & 0xD5 | 2);
        }
    }

    private static void wrongNumbersChangeNothing() {
        DiskMachine machine = new DiskMachine();
        String before = Programs.picture(machine);
        for (int k : WRONG) {
            Checks.refusesIndex("register " + k, () -> machine.register(k));
            Checks.refusesIndex("put " + k, () -> machine.put(k, 1));
        }
        Checks.same("after wrong calls", Programs.picture(machine), before);
    }

    private static void putLeavesTheRest() {
        DiskMachine machine = Programs.machineWith("FB 76");
        machine.step(2);
        machine.want(3);
        for (int k = 0; k < 10; k++) {
            machine.put(k, 0x200);
        }
        Checks.same("halted behind put", machine.told(0), 1);
        Checks.same("on behind put", machine.told(1), 1);
        Checks.same("wanted behind put", machine.told(2), 3);
        Checks.same("cycles behind put", machine.cycles(), 11);
    }
}
