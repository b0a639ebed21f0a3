/** Promises 1 to 5 and 15: a new object, memory, disk and the sum. */
public final class StoreTest {
    public static void main(String[] args) {
        newObjectIsEmpty();
        newStoresAreEmpty();
        memoryAnswersWhatWasThere();
        diskAnswersWhatWasThere();
        storesAreApart();
        sumWeighsByAddress();
        greatestSum();
        objectsAreApart();
        Checks.end();
    }

    private static void newObjectIsEmpty() {
        Checks.sentence("Promise 1");
        Machine machine = new Machine();
        for (int k = 0; k < 10; k++) {
            Checks.same("register " + k + " of a new object", machine.register(k), k == 6 ? 2 : 0);
        }
        for (int what = 0; what < 6; what++) {
            Checks.same("told " + what + " of a new object", machine.told(what), what == 2 ? -1 : 0);
        }
        Checks.same("cycles of a new object", machine.cycles(), 0);
        Checks.same("written of a new object", machine.written(), 0);
        Checks.same("sum of a new object", machine.sum(), 0);
        Checks.same("no input in a new object", machine.type(1), 1);
    }

    private static void newStoresAreEmpty() {
        Machine machine = new Machine();
        for (int address = 0; address < 4096; address++) {
            machine = address % 256 == 0 ? new Machine() : machine;
            Checks.same("read of a new object", machine.read(address), 0);
            Checks.same("readDisk of a new object", machine.readDisk(address), 0);
        }
    }

    private static void memoryAnswersWhatWasThere() {
        Checks.sentence("Promises 2 and 3");
        Machine machine = new Machine();
        for (int address : new int[] {0, 1, 2048, 4095}) {
            Checks.same("first write", machine.write(address, 255), 0);
            Checks.same("second write", machine.write(address, 7), 255);
            Checks.same("read", machine.read(address), 7);
            Checks.same("read again", machine.read(address), 7);
            Checks.same("write of 0", machine.write(address, 0), 7);
            Checks.same("read of 0", machine.read(address), 0);
        }
    }

    private static void diskAnswersWhatWasThere() {
        Checks.sentence("Promises 4 and 5");
        Machine machine = new Machine();
        for (int address : new int[] {0, 1, 2048, 4095}) {
            Checks.same("first writeDisk", machine.writeDisk(address, 255), 0);
            Checks.same("second writeDisk", machine.writeDisk(address, 7), 255);
            Checks.same("readDisk", machine.readDisk(address), 7);
            Checks.same("readDisk again", machine.readDisk(address), 7);
            Checks.same("writeDisk of 0", machine.writeDisk(address, 0), 7);
            Checks.same("readDisk of 0", machine.readDisk(address), 0);
        }
    }

    /** Every address, in blocks that one object has calls for. */
    private static void storesAreApart() {
        Checks.sentence("Promises 2 to 5");
        for (int start = 0; start < 4096; start += 128) {
            Machine machine = new Machine();
            for (int address = start; address < start + 128; address++) {
                machine.write(address, address * 7 & 255);
                machine.writeDisk(address, address * 5 + 3 & 255);
            }
            for (int address = start; address < start + 128; address++) {
                Checks.same("memory " + address, machine.read(address), address * 7 & 255);
                Checks.same("disk " + address, machine.readDisk(address), address * 5 + 3 & 255);
            }
        }
    }

    private static void sumWeighsByAddress() {
        Checks.sentence("Promise 15: of each byte, times its address and 1");
        for (int address = 0; address < 4096; address++) {
            Machine machine = new Machine();
            machine.write(address, 3);
            Checks.same("the byte at " + address, machine.sum(), 3 * (address + 1));
        }
        Machine machine = new Machine();
        machine.write(0, 3);
        machine.write(4095, 2);
        Checks.same("the first once, the last 4096 times", machine.sum(), 3 + 2 * 4096);
        machine.writeDisk(5, 200);
        Checks.same("the disk does not count", machine.sum(), 3 + 2 * 4096);
        Checks.same("it is the same again", machine.sum(), 3 + 2 * 4096);
    }

    /** A program fills all memory but itself, for which one object has too few calls. */
    private static void greatestSum() {
        Checks.sentence("Promise 15: as an int");
        Machine machine = new Machine();
        Programs.load(machine, 0, "36 FF 23 C3 00 00");
        machine.put(5, 6);
        for (int i = 0; i < 5; i++) {
            machine.step(4090 * 3 / 5);
        }
        for (int address = 0; address < 6; address++) {
            machine.write(address, 255);
        }
        Checks.same("the greatest sum", machine.sum(), 2139617280);
    }

    private static void objectsAreApart() {
        Checks.sentence("Promise 1");
        Machine one = new Machine();
        Machine other = new Machine();
        one.write(1, 1);
        one.writeDisk(1, 1);
        one.put(7, 1);
        one.type(1);
        one.want(1);
        one.step(1);
        Checks.same("another object", Programs.quickPicture(other),
            Programs.quickPicture(new Machine()));
        Checks.same("another object's disk", other.readDisk(1), 0);
        Checks.same("another object's input", other.type(1), 1);
        Checks.same("another object's cycles", other.cycles(), 0);
    }
}
