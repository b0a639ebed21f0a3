/** Promises 1 to 5 and 15: a new object, memory, disk and the sum. */
public final class StoreTest {
    private static final int[] WRONG_PLACES = {-1, 4096, 65536, Integer.MIN_VALUE, Integer.MAX_VALUE};
    private static final int[] WRONG_BYTES = {-1, 256, Integer.MIN_VALUE, Integer.MAX_VALUE};

    public static void main(String[] args) {
        newObjectIsEmpty();
        memoryAnswersWhatWasThere();
        diskAnswersWhatWasThere();
        storesAreApart();
        wrongCallsChangeNothing();
        sumWeighsByAddress();
        objectsAreApart();
        Checks.end();
    }

    private static void newObjectIsEmpty() {
        DiskMachine machine = new DiskMachine();
        for (int address = 0; address < 4096; address++) {
            Checks.same("read of a new object", machine.read(address), 0);
            Checks.same("readDisk of a new object", machine.readDisk(address), 0);
        }
        for (int k = 0; k < 10; k++) {
            Checks.same("register " + k + " of a new object", machine.register(k), k == 6 ? 2 : 0);
        }
        for (int what = 0; what < 6; what++) {
            Checks.same("told " + what + " of a new object", machine.told(what), what == 2 ? -1 : 0);
        }
        Checks.same("cycles of a new object", machine.cycles(), 0);
        Checks.same("written of a new object", machine.written(), 0);
        Checks.same("sum of a new object", machine.sum(), 0);
        Checks.same("no input in a new object", machine.type(1), 1);
    }

    private static void memoryAnswersWhatWasThere() {
        DiskMachine machine = new DiskMachine();
        for (int address : new int[] {0, 1, 2048, 4095}) {
            Checks.same("first write", machine.write(address, 255), 0);
            Checks.same("second write", machine.write(address, 7), 255);
            Checks.same("read", machine.read(address), 7);
            Checks.same("write of 0", machine.write(address, 0), 7);
            Checks.same("read of 0", machine.read(address), 0);
        }
    }

    private static void diskAnswersWhatWasThere() {
        DiskMachine machine = new DiskMachine();
        for (int address : new int[] {0, 1, 2048, 4095}) {
            Checks.same("first writeDisk", machine.writeDisk(address, 255), 0);
            Checks.same("second writeDisk", machine.writeDisk(address, 7), 255);
            Checks.same("readDisk", machine.readDisk(address), 7);
            Checks.same("writeDisk of 0", machine.writeDisk(address, 0), 7);
            Checks.same("readDisk of 0", machine.readDisk(address), 0);
        }
    }

    private static void storesAreApart() {
        DiskMachine machine = new DiskMachine();
        for (int address = 0; address < 4096; address++) {
            machine.write(address, address * 7 & 255);
            machine.writeDisk(address, address * 5 + 3 & 255);
        }
        for (int address = 0; address < 4096; address++) {
            Checks.same("memory " + address, machine.read(address), address * 7 & 255);
            Checks.same("disk " + address, machine.readDisk(address), address * 5 + 3 & 255);
        }
    }

    private static void wrongCallsChangeNothing() {
        DiskMachine machine = new DiskMachine();
        machine.write(0, 9);
        machine.write(4095, 8);
        machine.writeDisk(0, 7);
        machine.writeDisk(4095, 6);
        String before = Programs.picture(machine);
        for (int address : WRONG_PLACES) {
            Checks.refusesArgument("write", () -> machine.write(address, 1));
            Checks.refusesArgument("read", () -> machine.read(address));
            Checks.refusesArgument("writeDisk", () -> machine.writeDisk(address, 1));
            Checks.refusesArgument("readDisk", () -> machine.readDisk(address));
        }
        for (int v : WRONG_BYTES) {
            Checks.refusesArgument("write", () -> machine.write(0, v));
            Checks.refusesArgument("writeDisk", () -> machine.writeDisk(0, v));
            Checks.refusesArgument("write of both wrong", () -> machine.write(-1, v));
            Checks.refusesArgument("writeDisk of both wrong", () -> machine.writeDisk(-1, v));
        }
        Checks.same("after wrong calls", Programs.picture(machine), before);
    }

    private static void sumWeighsByAddress() {
        DiskMachine machine = new DiskMachine();
        machine.write(0, 3);
        Checks.same("the first byte counts once", machine.sum(), 3);
        machine.write(4095, 2);
        Checks.same("the last byte counts 4096 times", machine.sum(), 3 + 2 * 4096);
        machine.writeDisk(5, 200);
        Checks.same("the disk does not count", machine.sum(), 3 + 2 * 4096);
        for (int address = 0; address < 4096; address++) {
            machine.write(address, 255);
        }
        Checks.same("the greatest sum", machine.sum(), 2139617280);
    }

    private static void objectsAreApart() {
        DiskMachine one = new DiskMachine();
        DiskMachine other = new DiskMachine();
        one.write(1, 1);
        one.writeDisk(1, 1);
        one.put(7, 1);
        one.type(1);
        one.want(1);
        one.step(1);
        Checks.same("another object", Programs.picture(other), Programs.picture(new DiskMachine()));
    }
}
