/** Steps that a test of the controller takes again and again. */
final class Ports {
    static final int BUSY = 1;
    static final int DONE = 2;
    static final int FAULT = 4;

    private Ports() {
    }

    /** A machine whose controller has been told all this, with a program at 0x100, where PC is. */
    static Machine told(int sector, int address, int call, String behind) {
        Machine machine = Programs.machineWith(behind);
        out(machine, 2, sector);
        out(machine, 3, address & 255);
        out(machine, 4, address >> 8);
        out(machine, 5, call);
        return machine;
    }

    /** The one instruction is kept out of the way of the program at 0x100. */
    static void out(Machine machine, int port, int b) {
        int pc = machine.register(8);
        int a = machine.register(7);
        Programs.load(machine, 0xF0, "D3 " + Integer.toHexString(port));
        machine.put(8, 0xF0);
        machine.put(7, b);
        Checks.same("cycles of out", machine.step(1), 10);
        machine.put(8, pc);
        machine.put(7, a);
    }

    static int in6(Machine machine) {
        int pc = machine.register(8);
        Programs.load(machine, 0xF0, "DB 06");
        machine.put(8, 0xF0);
        machine.step(1);
        machine.put(8, pc);
        return machine.register(7);
    }

    static void fillSector(Machine machine, int sector) {
        for (int i = sector * 64; i < sector * 64 + 64; i++) {
            machine.writeDisk(i, diskByte(i));
        }
    }

    static int diskByte(int i) {
        return i * 3 + i / 64 + 1 & 255;
    }

    static void shows(String name, Machine machine, int state, int moved, int address) {
        Checks.same(name + ": state", machine.told(3), state);
        Checks.same(name + ": moved", machine.told(4), moved);
        Checks.same(name + ": address", machine.told(5), address);
    }
}
