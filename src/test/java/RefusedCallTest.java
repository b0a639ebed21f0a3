/**
 * What each promise refuses, just beyond its bounds and far beyond them; what it takes at its bounds;
 * and "a call that throws, or answers NONE, changes nothing", at rest and in the middle of work.
 */
public final class RefusedCallTest {
    /** Calls that must be refused. */
    private interface Wrong {
        void make(Machine machine);
    }

    private static final int LEAST = Integer.MIN_VALUE;
    private static final int MOST = Integer.MAX_VALUE;
    private static final int[] SMALL = {-1, -2, -4096, LEAST};

    public static void main(String[] args) {
        theMiddleIsAsMeant();
        writeTakesItsBounds();
        writeRefuses();
        readTakesItsBounds();
        readRefuses();
        writeDiskTakesItsBounds();
        writeDiskRefuses();
        readDiskTakesItsBounds();
        readDiskRefuses();
        registerTakesItsBounds();
        registerRefuses();
        putTakesItsBounds();
        putRefuses();
        typeTakesItsBounds();
        typeRefuses();
        typeAnswersNone();
        textRefuses();
        wantTakesItsBounds();
        wantRefuses();
        stepTakesItsBounds();
        stepRefuses();
        toldTakesItsBounds();
        toldRefuses();
        Checks.end();
    }

    /**
     * Input is full, more is written than is kept, a sector is on its way with cycles left over and a
     * call to come, a fault is told, and a wanted interrupt waits for the next instruction. Behind
     * this the program reads all input and writes what it makes of it.
     */
    private static Machine inTheMiddle() {
        Machine machine = Programs.machineWith("3E 05 D3 02 3E 34 D3 03 3E A2 D3 04 3E 0D D3 05 D3 06"
            + " 16 96 D3 01 3C D3 01 3C 15 C2 14 01 3E 01 D3 06 00 00 00 00 00 00 FB"
            + " DB 01 81 4F D3 01 C3 29 01");
        Programs.load(machine, 0x18, "04 FB C9");
        Programs.load(machine, 0x28, "DB 06 57 FB C9");
        Ports.fillSector(machine, 5);
        for (int i = 0; i < 64; i++) {
            machine.type(i * 11 + 1 & 255);
        }
        machine.step(919);
        machine.want(3);
        return machine;
    }

    private static void theMiddleIsAsMeant() {
        Checks.sentence("the test's own machine");
        Machine machine = inTheMiddle();
        Ports.shows("the controller", machine, Ports.BUSY | Ports.FAULT, 2, 0xA236);
        Checks.same("on", machine.told(1), 1);
        Checks.same("wanted", machine.told(2), 3);
        Checks.same("written", machine.written(), 300);
        Checks.same("PC", machine.register(8), 0x129);
        machine.step(700);
        Checks.same("the call came", machine.register(2), Ports.DONE | Ports.FAULT);
        Checks.same("and the one that was wanted", machine.register(0), 1);
        Checks.same("the text goes on", machine.written() > 364 ? 1 : 0, 1);
    }

    /** Both machines, with the wrong calls and without, must show the same now and later. */
    private static void refused(String sentence, Wrong wrong) {
        Checks.sentence(sentence);
        changesNothing("a new object", Machine::new, wrong);
        changesNothing("one in the middle", RefusedCallTest::inTheMiddle, wrong);
        changesNothing("one in the middle, later", RefusedCallTest::inTheMiddle, machine -> {
            wrong.make(machine);
            machine.step(700);
        }, machine -> machine.step(700));
    }

    private static void changesNothing(String name, Programs.Maker maker, Wrong wrong) {
        changesNothing(name, maker, wrong, machine -> { });
    }

    private static void changesNothing(String name, Programs.Maker maker, Wrong wrong, Wrong right) {
        Checks.same(name, Programs.picture(() -> behind(maker, wrong)),
            Programs.picture(() -> behind(maker, right)));
    }

    private static Machine behind(Programs.Maker maker, Wrong calls) {
        Machine machine = maker.make();
        calls.make(machine);
        return machine;
    }

    private static int[] large(int first) {
        return new int[] {first, first + 1, 65536 + first - 1, MOST};
    }

    private static void writeTakesItsBounds() {
        Checks.sentence("Promise 2: address 0 to 4095, v 0 to 255");
        Machine machine = new Machine();
        for (int address : new int[] {0, 4095}) {
            Checks.same("write of 255", machine.write(address, 255), 0);
            Checks.same("write of 0", machine.write(address, 0), 255);
            Checks.same("read", machine.read(address), 0);
        }
    }

    private static void writeRefuses() {
        refused("Promise 2: address is not 0 to 4095: too small", machine -> {
            for (int address : SMALL) {
                Checks.refusesArgument("write(" + address + ", 7)", () -> machine.write(address, 7));
            }
        });
        refused("Promise 2: address is not 0 to 4095: too large", machine -> {
            for (int address : large(4096)) {
                Checks.refusesArgument("write(" + address + ", 7)", () -> machine.write(address, 7));
            }
        });
        refused("Promise 2: or v not 0 to 255: too small", machine -> {
            for (int v : SMALL) {
                Checks.refusesArgument("write(0, " + v + ")", () -> machine.write(0, v));
                Checks.refusesArgument("write(4095, " + v + ")", () -> machine.write(4095, v));
            }
        });
        refused("Promise 2: or v not 0 to 255: too large", machine -> {
            for (int v : large(256)) {
                Checks.refusesArgument("write(0, " + v + ")", () -> machine.write(0, v));
                Checks.refusesArgument("write(4095, " + v + ")", () -> machine.write(4095, v));
            }
        });
        refused("Promise 2: both", machine -> {
            Checks.refusesArgument("write(-1, 256)", () -> machine.write(-1, 256));
            Checks.refusesArgument("write(4096, -1)", () -> machine.write(4096, -1));
        });
    }

    private static void readTakesItsBounds() {
        Checks.sentence("Promise 3: address 0 to 4095");
        Machine machine = new Machine();
        machine.write(0, 9);
        machine.write(4095, 8);
        Checks.same("read(0)", machine.read(0), 9);
        Checks.same("read(4095)", machine.read(4095), 8);
    }

    private static void readRefuses() {
        refused("Promise 3: it is not 0 to 4095: too small", machine -> {
            for (int address : SMALL) {
                Checks.refusesArgument("read(" + address + ")", () -> machine.read(address));
            }
        });
        refused("Promise 3: it is not 0 to 4095: too large", machine -> {
            for (int address : large(4096)) {
                Checks.refusesArgument("read(" + address + ")", () -> machine.read(address));
            }
        });
    }

    private static void writeDiskTakesItsBounds() {
        Checks.sentence("Promise 4: address 0 to 4095, v 0 to 255");
        Machine machine = new Machine();
        for (int address : new int[] {0, 4095}) {
            Checks.same("writeDisk of 255", machine.writeDisk(address, 255), 0);
            Checks.same("writeDisk of 0", machine.writeDisk(address, 0), 255);
            Checks.same("readDisk", machine.readDisk(address), 0);
        }
    }

    private static void writeDiskRefuses() {
        refused("Promise 4: address is not 0 to 4095: too small", machine -> {
            for (int a : SMALL) {
                Checks.refusesArgument("writeDisk(" + a + ", 7)", () -> machine.writeDisk(a, 7));
            }
        });
        refused("Promise 4: address is not 0 to 4095: too large", machine -> {
            for (int a : large(4096)) {
                Checks.refusesArgument("writeDisk(" + a + ", 7)", () -> machine.writeDisk(a, 7));
            }
        });
        refused("Promise 4: or v not 0 to 255: too small", machine -> {
            for (int v : SMALL) {
                Checks.refusesArgument("writeDisk(0, " + v + ")", () -> machine.writeDisk(0, v));
                Checks.refusesArgument("writeDisk(4095, " + v + ")", () -> machine.writeDisk(4095, v));
            }
        });
        refused("Promise 4: or v not 0 to 255: too large", machine -> {
            for (int v : large(256)) {
                Checks.refusesArgument("writeDisk(0, " + v + ")", () -> machine.writeDisk(0, v));
                Checks.refusesArgument("writeDisk(4095, " + v + ")", () -> machine.writeDisk(4095, v));
            }
        });
        refused("Promise 4: both", machine -> {
            Checks.refusesArgument("writeDisk(-1, 256)", () -> machine.writeDisk(-1, 256));
            Checks.refusesArgument("writeDisk(4096, -1)", () -> machine.writeDisk(4096, -1));
        });
    }

    private static void readDiskTakesItsBounds() {
        Checks.sentence("Promise 5: address 0 to 4095");
        Machine machine = new Machine();
        machine.writeDisk(0, 9);
        machine.writeDisk(4095, 8);
        Checks.same("readDisk(0)", machine.readDisk(0), 9);
        Checks.same("readDisk(4095)", machine.readDisk(4095), 8);
    }

    private static void readDiskRefuses() {
        refused("Promise 5: it is not 0 to 4095: too small", machine -> {
            for (int address : SMALL) {
                Checks.refusesArgument("readDisk(" + address + ")", () -> machine.readDisk(address));
            }
        });
        refused("Promise 5: it is not 0 to 4095: too large", machine -> {
            for (int address : large(4096)) {
                Checks.refusesArgument("readDisk(" + address + ")", () -> machine.readDisk(address));
            }
        });
    }

    private static void registerTakesItsBounds() {
        Checks.sentence("Promise 6: registers 0 to 9");
        Machine machine = Programs.machineWith("06 81 31 34 12");
        machine.step(2);
        Checks.same("register(0)", machine.register(0), 0x81);
        Checks.same("register(9)", machine.register(9), 0x1234);
    }

    private static void registerRefuses() {
        refused("Promise 6: there is none: too small", machine -> {
            for (int k : SMALL) {
                Checks.refusesIndex("register(" + k + ")", () -> machine.register(k));
            }
        });
        refused("Promise 6: there is none: too large", machine -> {
            for (int k : large(10)) {
                Checks.refusesIndex("register(" + k + ")", () -> machine.register(k));
            }
        });
    }

    private static void putTakesItsBounds() {
        Checks.sentence("Promise 7: registers 0 to 9");
        Machine machine = Programs.machineWith("78 E3");
        machine.put(0, 0x81);
        machine.put(9, 0x234);
        machine.put(5, 0x77);
        machine.step(2);
        Checks.same("what put(0) made of B", machine.register(7), 0x81);
        Checks.same("what put(9) made of SP", machine.read(0x234), 0x77);
    }

    private static void putRefuses() {
        refused("Promise 7: there is none: too small", machine -> {
            for (int k : SMALL) {
                Checks.refusesIndex("put(" + k + ", 7)", () -> machine.put(k, 7));
            }
        });
        refused("Promise 7: there is none: too large", machine -> {
            for (int k : large(10)) {
                Checks.refusesIndex("put(" + k + ", 7)", () -> machine.put(k, 7));
            }
        });
    }

    private static void typeTakesItsBounds() {
        Checks.sentence("Promise 8: b 0 to 255");
        Machine machine = Programs.machineWith("DB 01 47 DB 01");
        Checks.same("type(255)", machine.type(255), 1);
        Checks.same("type(0)", machine.type(0), 2);
        machine.put(7, 9);
        machine.step(3);
        Checks.same("the first", machine.register(0), 255);
        Checks.same("the second", machine.register(7), 0);
    }

    private static void typeRefuses() {
        refused("Promise 8: b is not 0 to 255: too small", machine -> {
            for (int b : SMALL) {
                Checks.refusesArgument("type(" + b + ")", () -> machine.type(b));
            }
        });
        refused("Promise 8: b is not 0 to 255: too large", machine -> {
            for (int b : large(256)) {
                Checks.refusesArgument("type(" + b + ")", () -> machine.type(b));
            }
        });
        Checks.sentence("Promise 8: b is not 0 to 255: no byte more of input");
        Machine machine = new Machine();
        Checks.same("type", machine.type(5), 1);
        Checks.refusesArgument("type(-1)", () -> machine.type(-1));
        Checks.refusesArgument("type(256)", () -> machine.type(256));
        Checks.same("type behind the wrong ones", machine.type(6), 2);
    }

    private static void typeAnswersNone() {
        Checks.sentence("Promise 8: NONE when there are 64");
        Wrong wrong = machine -> {
            for (int b : new int[] {0, 1, 200, 255}) {
                Checks.same("type(" + b + ")", machine.type(b), DiskMachine.NONE);
            }
        };
        changesNothing("one in the middle", RefusedCallTest::inTheMiddle, wrong);
        changesNothing("later", RefusedCallTest::inTheMiddle, machine -> {
            wrong.make(machine);
            machine.step(700);
        }, machine -> machine.step(700));
    }

    private static void textRefuses() {
        refused("Promise 10: it is not: too small", machine -> {
            for (int i : SMALL) {
                Checks.refusesIndex("text(" + i + ")", () -> machine.text(i));
            }
        });
        refused("Promise 10: it is not: not written yet", machine -> {
            int written = machine.written();
            for (int i : new int[] {written, written + 1, written + 256, MOST}) {
                Checks.refusesIndex("text(" + i + ")", () -> machine.text(i));
            }
        });
        refused("Promise 10: it is not: no longer kept", machine -> {
            int kept = Math.max(0, machine.written() - 256);
            for (int i : new int[] {0, kept - 2, kept - 1}) {
                Checks.refusesIndex("text(" + i + ")", () -> machine.text(i));
            }
        });
    }

    private static void wantTakesItsBounds() {
        Checks.sentence("Promise 11: 0 to 7");
        for (int n : new int[] {0, 7}) {
            Machine machine = Programs.machineWith("FB 00");
            machine.step(2);
            machine.want(n);
            Checks.same("wanted", machine.told(2), n);
            machine.step(1);
            Checks.same("PC", machine.register(8), 8 * n);
        }
    }

    private static void wantRefuses() {
        refused("Promise 11: it is not 0 to 7: too small", machine -> {
            for (int n : SMALL) {
                Checks.refusesArgument("want(" + n + ")", () -> machine.want(n));
            }
        });
        refused("Promise 11: it is not 0 to 7: too large", machine -> {
            for (int n : large(8)) {
                Checks.refusesArgument("want(" + n + ")", () -> machine.want(n));
            }
        });
    }

    private static void stepTakesItsBounds() {
        Checks.sentence("Promise 12: n 0 to 3000");
        Machine machine = new Machine();
        Checks.same("step(0)", machine.step(0), 0);
        Checks.same("PC", machine.register(8), 0);
        Checks.same("step(3000)", machine.step(3000), 12000);
        Checks.same("PC", machine.register(8), 3000);
        changesNothing("step(0) in the middle", RefusedCallTest::inTheMiddle,
            other -> Checks.same("step(0)", other.step(0), 0));
    }

    private static void stepRefuses() {
        refused("Promise 12: n is not 0 to 3000: too small", machine -> {
            for (int n : SMALL) {
                Checks.refusesArgument("step(" + n + ")", () -> machine.step(n));
            }
        });
        refused("Promise 12: n is not 0 to 3000: too large", machine -> {
            for (int n : large(3001)) {
                Checks.refusesArgument("step(" + n + ")", () -> machine.step(n));
            }
        });
    }

    private static void toldTakesItsBounds() {
        Checks.sentence("Promise 14: what 0 to 5");
        Machine machine = Programs.machineWith("3E 9C D3 03 76");
        machine.step(3);
        Checks.same("told(0)", machine.told(0), 1);
        Checks.same("told(5)", machine.told(5), 0x9C);
    }

    private static void toldRefuses() {
        refused("Promise 14: another what: too small", machine -> {
            for (int what : SMALL) {
                Checks.refusesArgument("told(" + what + ")", () -> machine.told(what));
            }
        });
        refused("Promise 14: another what: too large", machine -> {
            for (int what : large(6)) {
                Checks.refusesArgument("told(" + what + ")", () -> machine.told(what));
            }
        });
    }
}
