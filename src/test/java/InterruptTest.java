/** Promises 11 to 14: want, step, cycles and told, as far as the processor goes. */
public final class InterruptTest {
    private static final int[] WRONG = {-1, 8, Integer.MIN_VALUE, Integer.MAX_VALUE};

    public static void main(String[] args) {
        wantedIsToldAndReplaced();
        offInterruptsStayWanted();
        everyInterruptIsAnswered();
        nextInstructionIsSheltered();
        shelterIsRenewed();
        offBehindOn();
        haltedWaits();
        haltedIsCalled();
        haltedAndOffStaysHalted();
        stepCounts();
        wrongCallsChangeNothing();
        Checks.end();
    }

    private static void wantedIsToldAndReplaced() {
        DiskMachine machine = new DiskMachine();
        for (int n = 0; n < 8; n++) {
            machine.want(n);
            Checks.same("wanted", machine.told(2), n);
        }
        machine.want(0);
        Checks.same("wanted in place of 7", machine.told(2), 0);
    }

    private static void offInterruptsStayWanted() {
        DiskMachine machine = Programs.machineWith("00 00 00");
        machine.want(5);
        Checks.same("cycles", machine.step(3), 12);
        Checks.same("PC", machine.register(8), 0x103);
        Checks.same("still wanted", machine.told(2), 5);
        Checks.same("still off", machine.told(1), 0);
    }

    private static void everyInterruptIsAnswered() {
        for (int n = 0; n < 8; n++) {
            DiskMachine machine = Programs.machineWith("FB 00 00");
            machine.put(9, 1);
            machine.put(6, 0xD7);
            machine.step(2);
            machine.want(n);
            Checks.same("told before", machine.told(2), n);
            Checks.same("cycles of an interrupt", machine.step(1), 11);
            Checks.same("PC", machine.register(8), 8 * n);
            Checks.same("SP", machine.register(9), 0xFFFF);
            Checks.same("pushed, low", machine.read(4095), 2);
            Checks.same("pushed, high", machine.read(0), 1);
            Checks.same("off", machine.told(1), 0);
            Checks.same("no longer wanted", machine.told(2), DiskMachine.NONE);
            Checks.same("flags stay", machine.register(6), 0xD7);
            Checks.same("cycles in all", machine.cycles(), 19);
        }
    }

    private static void nextInstructionIsSheltered() {
        DiskMachine machine = Programs.machineWith("FB 3C 3C");
        machine.want(1);
        Checks.same("on", machine.step(1), 4);
        Checks.same("on is told at once", machine.told(1), 1);
        Checks.same("wanted stays", machine.told(2), 1);
        machine.step(0);
        Checks.same("the sheltered one", machine.step(1), 5);
        Checks.same("it was done", machine.register(7), 1);
        Checks.same("PC", machine.register(8), 0x102);
        Checks.same("the interrupt", machine.step(1), 11);
        Checks.same("PC behind it", machine.register(8), 8);
        Checks.same("nothing more was done", machine.register(7), 1);
    }

    private static void shelterIsRenewed() {
        DiskMachine machine = Programs.machineWith("FB FB FB 3C 3C");
        machine.want(2);
        machine.step(4);
        Checks.same("A", machine.register(7), 1);
        Checks.same("PC", machine.register(8), 0x104);
        Checks.same("the interrupt", machine.step(1), 11);
        Checks.same("PC behind it", machine.register(8), 16);
        DiskMachine again = Programs.machineWith("FB 00 FB 3C");
        again.step(3);
        again.want(3);
        Checks.same("set on though it is on", again.step(1), 5);
        Checks.same("the interrupt", again.step(1), 11);
    }

    private static void offBehindOn() {
        DiskMachine machine = Programs.machineWith("FB F3 3C 3C FB 3C");
        machine.want(2);
        Checks.same("off again", machine.step(2), 8);
        Checks.same("told off", machine.told(1), 0);
        Checks.same("goes on", machine.step(3), 14);
        Checks.same("on", machine.told(1), 1);
        Checks.same("sheltered", machine.step(1), 5);
        Checks.same("interrupt", machine.step(1), 11);
    }

    private static void haltedWaits() {
        DiskMachine machine = Programs.machineWith("76 3C");
        Checks.same("not halted yet", machine.told(0), 0);
        Checks.same("halts", machine.step(1), 7);
        Checks.same("halted", machine.told(0), 1);
        Checks.same("PC is behind", machine.register(8), 0x101);
        Checks.same("waits", machine.step(5), 20);
        machine.put(8, 0x200);
        Checks.same("put leaves it halted", machine.told(0), 1);
        Checks.same("waits on", machine.step(1), 4);
        Checks.same("PC stays", machine.register(8), 0x200);
        Checks.same("A stays", machine.register(7), 0);
        Checks.same("cycles", machine.cycles(), 31);
    }

    private static void haltedIsCalled() {
        DiskMachine machine = Programs.machineWith("FB 76 3C");
        Programs.load(machine, 48, "04 C9");
        machine.step(4);
        machine.want(6);
        Checks.same("still halted", machine.told(0), 1);
        Checks.same("interrupt", machine.step(1), 11);
        Checks.same("goes on", machine.told(0), 0);
        Checks.same("comes back behind the halt", machine.step(3), 20);
        Checks.same("B", machine.register(0), 1);
        Checks.same("A", machine.register(7), 1);
        DiskMachine sheltered = Programs.machineWith("FB 76");
        sheltered.want(1);
        Checks.same("it halts, sheltered", sheltered.step(2), 11);
        Checks.same("halted", sheltered.told(0), 1);
        Checks.same("and is called then", sheltered.step(1), 11);
        Checks.same("PC", sheltered.register(8), 8);
    }

    private static void haltedAndOffStaysHalted() {
        DiskMachine machine = Programs.machineWith("76");
        machine.step(1);
        machine.want(4);
        Checks.same("waits", machine.step(3), 12);
        Checks.same("halted", machine.told(0), 1);
        Checks.same("wanted", machine.told(2), 4);
    }

    private static void stepCounts() {
        DiskMachine machine = Programs.machineWith("3C C3 00 01");
        Checks.same("no step", machine.step(0), 0);
        Checks.same("no cycles", machine.cycles(), 0);
        Checks.same("the most steps", machine.step(3000), 1500 * 15);
        Checks.same("A", machine.register(7), 1500 & 255);
        Checks.same("one more", machine.step(1), 5);
        Checks.same("cycles", machine.cycles(), 1500 * 15 + 5);
        Programs.load(machine, 0x300, "E3 C3 00 03");
        machine.put(8, 0x300);
        for (int i = 0; i < 10; i++) {
            Checks.same("long steps", machine.step(3000), 1500 * 28);
        }
        Checks.same("cycles", machine.cycles(), 1500 * 15 + 5 + 15000 * 28);
    }

    private static void wrongCallsChangeNothing() {
        DiskMachine machine = Programs.machineWith("FB 00 3C");
        machine.step(2);
        machine.want(3);
        String before = Programs.picture(machine);
        for (int n : WRONG) {
            Checks.refusesArgument("want " + n, () -> machine.want(n));
        }
        for (int n : new int[] {-1, 3001, Integer.MIN_VALUE, Integer.MAX_VALUE}) {
            Checks.refusesArgument("step " + n, () -> machine.step(n));
        }
        for (int what : new int[] {-1, 6, Integer.MIN_VALUE, Integer.MAX_VALUE}) {
            Checks.refusesArgument("told " + what, () -> machine.told(what));
        }
        Checks.same("after wrong calls", Programs.picture(machine), before);
    }
}
