/** Promises 8 to 10 and the ports of the console. */
public final class ConsoleTest {
    private static final int[] WRONG_BYTES = {-1, 256, Integer.MIN_VALUE, Integer.MAX_VALUE};

    public static void main(String[] args) {
        inputHasRoomFor64();
        inputComesInItsOrder();
        fullInputTakesMoreWhenOneIsGone();
        wrongKeysChangeNothing();
        textKeepsTheLast256();
        otherPortsDoNothing();
        Checks.end();
    }

    private static void inputHasRoomFor64() {
        DiskMachine machine = Programs.machineWith("DB 01 DB 00");
        for (int i = 1; i <= 64; i++) {
            Checks.same("type", machine.type(i), i);
        }
        Checks.same("type into full input", machine.type(200), DiskMachine.NONE);
        Checks.same("once more", machine.type(201), DiskMachine.NONE);
        Checks.refusesArgument("a wrong key into full input", () -> machine.type(256));
        machine.step(1);
        Checks.same("the first key", machine.register(7), 1);
        Checks.same("room for one", machine.type(202), 64);
    }

    private static void inputComesInItsOrder() {
        DiskMachine machine = Programs.machineWith("DB 00 DB 01 C3 00 01");
        machine.step(1);
        Checks.same("in 0 without input", machine.register(7), 0);
        machine.put(7, 9);
        machine.step(2);
        Checks.same("in 1 without input", machine.register(7), 0);
        for (int b : new int[] {255, 0, 128}) {
            machine.type(b);
        }
        for (int b : new int[] {255, 0, 128}) {
            machine.step(1);
            Checks.same("in 0 with input", machine.register(7), 1);
            machine.step(2);
            Checks.same("in 1 with input", machine.register(7), b);
        }
        machine.step(1);
        Checks.same("in 0 behind the input", machine.register(7), 0);
        Checks.same("type behind the input", machine.type(1), 1);
    }

    private static void fullInputTakesMoreWhenOneIsGone() {
        DiskMachine machine = Programs.machineWith("DB 01 C3 00 01");
        int typed = 0;
        int taken = 0;
        while (typed < 64) {
            machine.type(typed++);
        }
        for (int i = 0; i < 150; i++) {
            machine.step(2);
            Checks.same("the next key", machine.register(7), taken++);
            Checks.same("type", machine.type(typed++), 64);
        }
        for (int i = 0; i < 64; i++) {
            machine.step(2);
            Checks.same("the keys that are left", machine.register(7), taken++);
        }
    }

    private static void wrongKeysChangeNothing() {
        DiskMachine machine = new DiskMachine();
        for (int b : WRONG_BYTES) {
            Checks.refusesArgument("type " + b, () -> machine.type(b));
        }
        Checks.same("type behind wrong keys", machine.type(255), 1);
        Checks.same("type of 0", machine.type(0), 2);
    }

    private static void textKeepsTheLast256() {
        DiskMachine machine = Programs.machineWith("D3 01 C6 07 C3 00 01");
        Checks.refusesIndex("text before any", () -> machine.text(0));
        for (int count = 1; count <= 600; count++) {
            machine.step(3);
            Checks.same("written", machine.written(), count);
            int past = count;
            int gone = count - 257;
            Checks.same("the last", machine.text(count - 1), (count - 1) * 7 & 255);
            int first = Math.max(0, count - 256);
            Checks.same("the first that is kept", machine.text(first), first * 7 & 255);
            Checks.refusesIndex("text behind the last", () -> machine.text(past));
            Checks.refusesIndex("text that is gone", () -> machine.text(Math.max(-1, gone)));
        }
        for (int i = 344; i < 600; i++) {
            Checks.same("text " + i, machine.text(i), i * 7 & 255);
        }
        for (int i : new int[] {-1, 0, 343, 600, Integer.MIN_VALUE, Integer.MAX_VALUE}) {
            Checks.refusesIndex("text " + i, () -> machine.text(i));
        }
        Checks.same("wrong calls change nothing", machine.written(), 600);
    }

    private static void otherPortsDoNothing() {
        for (int port = 0; port < 256; port++) {
            DiskMachine machine = Programs.machineWith("DB " + Integer.toHexString(port));
            machine.put(6, 0xFF);
            machine.type(77);
            Checks.same("cycles of in " + port, machine.step(1), 10);
            int due = port == 0 ? 1 : port == 1 ? 77 : port == 6 ? 0 : 255;
            Checks.same("in " + port, machine.register(7), due);
            Checks.same("in leaves the flags", machine.register(6), 0xD7);
            Checks.same("input behind in " + port, machine.type(1), port == 1 ? 1 : 2);
            if (port == 0 || port > 6) {
                outDoesNothing(port);
            }
        }
    }

    private static void outDoesNothing(int port) {
        String program = "D3 " + Integer.toHexString(port);
        DiskMachine machine = Programs.machineWith(program);
        machine.put(7, 1);
        Checks.same("cycles of out " + port, machine.step(1), 10);
        DiskMachine idle = Programs.machineWith(program);
        idle.put(7, 1);
        idle.put(8, 0x102);
        Checks.same("out " + port, Programs.quickPicture(machine), Programs.quickPicture(idle));
    }
}
