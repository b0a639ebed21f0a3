/** The controller, by promises 12 and 14: ports 2 to 6, the moving of bytes, and its call. */
public final class ControllerTest {
    private static final int BUSY = 1;
    private static final int DONE = 2;
    private static final int FAULT = 4;

    public static void main(String[] args) {
        toMemory();
        toDisk();
        everySector();
        bytesComeEachTwelveCycles();
        longInstructionsMoveTwo();
        interruptsAndWaitsCount();
        sectorIsKept();
        addressChangesAtAnyTime();
        addressBytesAreReplaced();
        nothingMovesBehindTheLast();
        addressWraps();
        callsAreMade();
        callReplacesAnother();
        faults();
        stateIsTaken();
        commandInItsLastInstruction();
        secondCommandStartsAnew();
        programSeesBytesBehindTheInstruction();
        Checks.end();
    }

    /** A machine whose controller has been told all this by the program; PC is behind it. */
    private static DiskMachine told(int sector, int address, int call, String behind) {
        DiskMachine machine = Programs.machineWith(behind);
        out(machine, 2, sector);
        out(machine, 3, address & 255);
        out(machine, 4, address >> 8);
        out(machine, 5, call);
        return machine;
    }

    /** The one instruction is kept out of the way of the program at 0x100. */
    private static void out(DiskMachine machine, int port, int b) {
        int pc = machine.register(8);
        int a = machine.register(7);
        Programs.load(machine, 0xF0, "D3 " + Integer.toHexString(port));
        machine.put(8, 0xF0);
        machine.put(7, b);
        Checks.same("cycles of out", machine.step(1), 10);
        machine.put(8, pc);
        machine.put(7, a);
    }

    private static int in6(DiskMachine machine) {
        int pc = machine.register(8);
        Programs.load(machine, 0xF0, "DB 06");
        machine.put(8, 0xF0);
        machine.step(1);
        machine.put(8, pc);
        return machine.register(7);
    }

    private static void fillDisk(DiskMachine machine) {
        for (int i = 0; i < 4096; i++) {
            machine.writeDisk(i, diskByte(i));
        }
    }

    private static int diskByte(int i) {
        return i * 3 + i / 64 + 1 & 255;
    }

    private static void controller(String name, DiskMachine machine, int state, int moved, int address) {
        Checks.same(name + ": state", machine.told(3), state);
        Checks.same(name + ": moved", machine.told(4), moved);
        Checks.same(name + ": address", machine.told(5), address);
    }

    private static void toMemory() {
        DiskMachine machine = told(5, 0x340, 0, "76");
        fillDisk(machine);
        controller("told", machine, 0, 0, 0x340);
        out(machine, 6, 1);
        controller("busy", machine, BUSY, 0, 0x340);
        machine.step(1);
        machine.step(64 * 3);
        controller("done", machine, DONE, 64, 0x380);
        for (int i = 0; i < 64; i++) {
            Checks.same("memory", machine.read(0x340 + i), diskByte(320 + i));
        }
        Checks.same("before", machine.read(0x33F), 0);
        Checks.same("behind", machine.read(0x380), 0);
        for (int i = 0; i < 4096; i++) {
            Checks.same("the disk stays", machine.readDisk(i), diskByte(i));
        }
        Checks.same("nothing is wanted", machine.told(2), DiskMachine.NONE);
    }

    private static void toDisk() {
        DiskMachine machine = told(63, 0x340, 0, "76");
        fillDisk(machine);
        for (int i = 0; i < 64; i++) {
            machine.write(0x340 + i, 200 - i);
        }
        int sum = machine.sum();
        out(machine, 6, 2);
        int changed = machine.sum();
        machine.step(1 + 64 * 3);
        controller("done", machine, DONE, 64, 0x380);
        for (int i = 0; i < 4096; i++) {
            Checks.same("disk " + i, machine.readDisk(i), i < 4032 ? diskByte(i) : 200 - (i - 4032));
        }
        Checks.same("memory stays", machine.sum(), changed);
        Checks.same("but for the test's own byte", changed - sum, (6 - 5) * 0xF2);
    }

    private static void everySector() {
        for (int sector = 0; sector < 256; sector++) {
            DiskMachine machine = told(sector, 0x200, 0, "76");
            machine.writeDisk(sector * 64 & 4095, 9);
            out(machine, 6, 1);
            Checks.same("state of sector " + sector, machine.told(3), sector < 64 ? BUSY : FAULT);
            machine.step(4);
            Checks.same("byte of sector " + sector, machine.read(0x200), sector < 64 ? 9 : 0);
        }
    }

    private static void bytesComeEachTwelveCycles() {
        DiskMachine machine = told(0, 0x200, 0, "00");
        fillDisk(machine);
        out(machine, 6, 1);
        int passed = 0;
        for (int i = 0; i < 200; i++) {
            passed += machine.step(1);
            int moved = Math.min(64, passed / 12);
            controller("behind " + passed, machine, moved < 64 ? BUSY : DONE, moved, 0x200 + moved);
            Checks.same("the next byte is not there", machine.read(0x200 + moved), 0);
            Checks.same("the last one is", machine.read(0x1FF + moved),
                moved == 0 ? 0 : diskByte(moved - 1));
        }
    }

    private static void longInstructionsMoveTwo() {
        DiskMachine machine = told(0, 0x300, 0, "E3 E3 E3 C3 00 01");
        machine.writeDisk(0, 1);
        out(machine, 6, 1);
        int passed = 0;
        for (int i = 0; i < 60; i++) {
            passed += machine.step(1);
            Checks.same("moved behind " + passed, machine.told(4), Math.min(64, passed / 12));
        }
    }

    private static void interruptsAndWaitsCount() {
        DiskMachine machine = told(0, 0x300, 0, "FB 76");
        out(machine, 6, 1);
        machine.step(2);
        Checks.same("none behind 11", machine.told(4), 0);
        machine.want(7);
        Checks.same("interrupt", machine.step(1), 11);
        Checks.same("one behind 22", machine.told(4), 1);
        machine.write(56, 0x76);
        machine.step(1);
        Checks.same("two behind 29", machine.told(4), 2);
        machine.step(1);
        Checks.same("two behind 33", machine.told(4), 2);
        machine.step(1);
        Checks.same("three behind 37", machine.told(4), 3);
    }

    private static void sectorIsKept() {
        DiskMachine machine = told(2, 0x300, 0, "00");
        fillDisk(machine);
        out(machine, 6, 1);
        machine.step(10);
        out(machine, 2, 200);
        machine.step(64 * 3);
        for (int i = 0; i < 64; i++) {
            Checks.same("the old sector", machine.read(0x300 + i), diskByte(128 + i));
        }
        Checks.same("no fault", machine.told(3), DONE);
    }

    private static void addressChangesAtAnyTime() {
        DiskMachine machine = told(2, 0x3FE, 0, "00");
        fillDisk(machine);
        out(machine, 6, 1);
        machine.step(12);
        controller("four moved", machine, BUSY, 4, 0x402);
        out(machine, 3, 0xF0);
        controller("low", machine, BUSY, 4, 0x4F0);
        out(machine, 4, 0xA6);
        controller("high, and one behind the instruction", machine, BUSY, 5, 0xA6F1);
        machine.step(1);
        controller("on", machine, BUSY, 6, 0xA6F2);
        Checks.same("byte 4 at the new address", machine.read(0x6F0), diskByte(132));
        Checks.same("byte 5 behind it", machine.read(0x6F1), diskByte(133));
        Checks.same("byte 3 at the old one", machine.read(0x401), diskByte(131));
        Checks.same("not beyond", machine.read(0x402), 0);
    }

    private static void addressBytesAreReplaced() {
        DiskMachine machine = told(0, 0xFFFF, 0, "00");
        out(machine, 3, 0);
        controller("low byte 0", machine, 0, 0, 0xFF00);
        out(machine, 4, 0x12);
        controller("high byte 12", machine, 0, 0, 0x1200);
        out(machine, 3, 0xFF);
        out(machine, 4, 0);
        controller("low byte FF, high byte 0", machine, 0, 0, 0x00FF);
    }

    /** The last instruction leaves cycles for two bytes, but only one is left in the sector. */
    private static void nothingMovesBehindTheLast() {
        DiskMachine machine = told(0, 0x300, 0, "00");
        fillDisk(machine);
        out(machine, 6, 1);
        machine.step(188);
        machine.write(machine.register(8), 0x3C);
        machine.write(machine.register(8) + 1, 0x3C);
        machine.step(2);
        controller("behind 762", machine, BUSY, 63, 0x33F);
        machine.write(machine.register(8), 0xE3);
        machine.put(9, 0xE00);
        machine.step(1);
        controller("behind 780", machine, DONE, 64, 0x340);
        Checks.same("the last byte", machine.read(0x33F), diskByte(63));
        Checks.same("none behind it", machine.read(0x340), 0);
    }

    private static void addressWraps() {
        DiskMachine machine = told(1, 0xFFE0, 0, "76");
        fillDisk(machine);
        out(machine, 6, 1);
        machine.step(1 + 64 * 3);
        controller("wrapped", machine, DONE, 64, 0x20);
        for (int i = 0; i < 64; i++) {
            Checks.same("memory", machine.read(0xFE0 + i & 4095), diskByte(64 + i));
        }
        DiskMachine other = told(1, 0x1FFF, 0, "76");
        fillDisk(other);
        out(other, 6, 1);
        other.step(1 + 64 * 3);
        controller("beyond memory", other, DONE, 64, 0x203F);
        Checks.same("the first", other.read(0xFFF), diskByte(64));
        Checks.same("the second", other.read(0), diskByte(65));
    }

    private static void callsAreMade() {
        for (int call = 0; call < 256; call++) {
            DiskMachine machine = told(1, 0x300, call, "76");
            out(machine, 6, 1);
            machine.step(1 + 190);
            Checks.same("one is left", machine.told(4), 63);
            Checks.same("none wanted yet", machine.told(2), DiskMachine.NONE);
            machine.step(1);
            int due = (call & 8) != 0 ? call & 7 : DiskMachine.NONE;
            Checks.same("call " + call, machine.told(2), due);
            controller("done", machine, DONE, 64, 0x340);
        }
        DiskMachine machine = told(1, 0x300, 9, "76");
        out(machine, 6, 1);
        out(machine, 5, 12);
        machine.step(250);
        Checks.same("the call when it is done", machine.told(2), 4);
    }

    private static void callReplacesAnother() {
        DiskMachine machine = told(1, 0x300, 13, "FB 76");
        machine.want(2);
        out(machine, 6, 1);
        machine.write(16, 0x76);
        machine.step(4);
        Checks.same("2 was answered", machine.register(8), 17);
        machine.want(3);
        machine.step(200);
        Checks.same("in place of 3", machine.told(2), 5);
        machine.want(1);
        machine.step(50);
        Checks.same("only once", machine.told(2), 1);
    }

    private static void faults() {
        for (int command = 0; command < 256; command++) {
            DiskMachine machine = told(1, 0x300, 8, "76");
            out(machine, 6, command);
            boolean known = command == 1 || command == 2;
            controller("command " + command, machine, known ? BUSY : FAULT, 0, 0x300);
        }
        faultWhileBusy();
    }

    private static void faultWhileBusy() {
        DiskMachine machine = told(1, 0x300, 8, "00");
        fillDisk(machine);
        out(machine, 6, 1);
        machine.step(20);
        Checks.same("moved behind 80", machine.told(4), 6);
        out(machine, 2, 3);
        out(machine, 6, 2);
        Checks.same("a fault while busy", machine.told(3), BUSY | FAULT);
        Checks.same("it goes on: moved behind 100", machine.told(4), 8);
        machine.step(200);
        controller("done, and the fault stays", machine, DONE | FAULT, 64, 0x340);
        for (int i = 0; i < 64; i++) {
            Checks.same("the first command's bytes", machine.read(0x300 + i), diskByte(64 + i));
            Checks.same("sector 3 stays", machine.readDisk(192 + i), diskByte(192 + i));
        }
    }

    private static void stateIsTaken() {
        DiskMachine machine = told(1, 0x300, 0, "76");
        Checks.same("at rest", in6(machine), 0);
        out(machine, 6, 3);
        Checks.same("a fault", in6(machine), FAULT);
        Checks.same("taken", machine.told(3), 0);
        out(machine, 6, 7);
        out(machine, 6, 1);
        Checks.same("the fault stays", machine.told(3), BUSY | FAULT);
        Checks.same("busy with a fault", in6(machine), BUSY | FAULT);
        Checks.same("busy stays", machine.told(3), BUSY);
        Checks.same("busy", in6(machine), BUSY);
        machine.step(200);
        Checks.same("done", machine.told(3), DONE);
    }

    /** A command that comes while the last byte is still due is a fault, though the byte moves then. */
    private static void commandInItsLastInstruction() {
        DiskMachine machine = told(1, 0x300, 0, "00");
        out(machine, 6, 1);
        machine.step(190);
        Checks.same("63 moved behind 760", machine.told(4), 63);
        out(machine, 6, 1);
        controller("refused, and done behind it", machine, DONE | FAULT, 64, 0x340);
        Checks.same("taken", in6(machine), DONE | FAULT);
        out(machine, 6, 2);
        Checks.same("now it is busy", machine.told(3), BUSY);
        machine.step(190);
        Checks.same("63 moved", machine.told(4), 63);
        Checks.same("busy is what the program reads", in6(machine), BUSY);
        Checks.same("done behind the instruction", machine.told(3), DONE);
    }

    private static void secondCommandStartsAnew() {
        DiskMachine machine = told(1, 0x300, 0, "00");
        fillDisk(machine);
        out(machine, 6, 1);
        machine.step(189);
        Programs.load(machine, machine.register(8), "E3");
        machine.step(1);
        controller("done, with cycles left over", machine, DONE, 64, 0x340);
        out(machine, 2, 4);
        out(machine, 6, 1);
        controller("anew, done stays told", machine, BUSY | DONE, 0, 0x340);
        machine.step(2);
        Checks.same("none behind 8", machine.told(4), 0);
        machine.step(1);
        controller("one behind 12", machine, BUSY | DONE, 1, 0x341);
        Checks.same("its byte", machine.read(0x340), diskByte(256));
        out(machine, 6, 9);
        Checks.same("a fault keeps the rest", machine.told(3), BUSY | DONE | FAULT);
    }

    /** All bytes that come in an instruction's cycles move behind it. */
    private static void programSeesBytesBehindTheInstruction() {
        DiskMachine machine = told(0, 0x300, 0, "3A 00 03 3A 00 03");
        machine.writeDisk(0, 99);
        machine.write(0x300, 44);
        out(machine, 6, 1);
        machine.step(1);
        Checks.same("read before it moved", machine.register(7), 44);
        Checks.same("moved", machine.read(0x300), 99);
        machine.step(1);
        Checks.same("read behind it", machine.register(7), 99);
        DiskMachine back = told(0, 0x300, 0, "32 00 03");
        back.put(7, 55);
        out(back, 6, 2);
        back.step(1);
        Checks.same("the byte that was stored goes to the disk", back.readDisk(0), 55);
    }
}
