/** Promises 11 to 14 and the interrupts: when one comes, when it does not yet, and when never. */
public final class InterruptTest {
    public static void main(String[] args) {
        noneIsWanted();
        offMeansNone();
        lastWantedCounts();
        firstAndLastNumber();
        notBehindTheOneThatSetThemOn();
        theNextIsDoneWhateverItIs();
        thisOneAgain();
        shelterOutlastsOtherCalls();
        onAgainSheltersAgain();
        offEndsTheShelter();
        afterwardsTheyAreOff();
        pushGoesRound();
        haltedWaitsForOneThatComes();
        haltedStaysWhenTheyAreOff();
        haltedBehindOn();
        putLeavesItHalted();
        haltedCountsFourEach();
        interruptsCountAsSteps();
        longStepsAreCounted();
        manyStepsAreSingleSteps();
        cyclesAreAllCounted();
        Checks.end();
    }

    /** One whose interrupts are on, and not just now; PC is at 0x102. */
    private static Machine on(String behind) {
        Machine machine = Programs.machineWith("FB 00 " + behind);
        machine.step(2);
        return machine;
    }

    private static void noneIsWanted() {
        Checks.sentence("Promise 14: the one that is wanted, or NONE");
        Machine machine = on("3C");
        Checks.same("wanted", machine.told(2), DiskMachine.NONE);
        Checks.same("on", machine.told(1), 1);
        Checks.same("no interrupt, but the instruction", machine.step(1), 5);
        Checks.same("A", machine.register(7), 1);
        Checks.same("PC", machine.register(8), 0x103);
        Checks.same("SP", machine.register(9), 0x800);
        Checks.same("still on", machine.told(1), 1);
    }

    private static void offMeansNone() {
        Checks.sentence("INTERRUPTS: if one is, and they are on");
        Machine machine = Programs.machineWith("3C 3C F3 3C");
        machine.want(0);
        Checks.same("cycles", machine.step(4), 19);
        Checks.same("A", machine.register(7), 3);
        Checks.same("wanted", machine.told(2), 0);
        Checks.same("off", machine.told(1), 0);
    }

    private static void lastWantedCounts() {
        Checks.sentence("Promise 11: in place of another one");
        Machine machine = on("00");
        for (int n : new int[] {7, 0, 5, 5, 2}) {
            machine.want(n);
            Checks.same("wanted", machine.told(2), n);
        }
        machine.step(1);
        Checks.same("PC", machine.register(8), 16);
        Checks.same("no other is wanted", machine.told(2), DiskMachine.NONE);
    }

    private static void firstAndLastNumber() {
        Checks.sentence("INTERRUPTS: PC becomes 8 times its number (11)");
        for (int n = 0; n < 8; n++) {
            Machine machine = on("00");
            machine.put(6, 0xD7);
            machine.want(n);
            Checks.same("cycles", machine.step(1), 11);
            Checks.same("flags stay", machine.register(6), 0xD7);
            Checks.same("PC", machine.register(8), 8 * n);
            Checks.same("wanted", machine.told(2), DiskMachine.NONE);
            Checks.same("the byte at SP", machine.read(0x7FE), 2);
            Checks.same("the byte behind it", machine.read(0x7FF), 1);
            Checks.same("SP", machine.register(9), 0x7FE);
        }
    }

    private static void notBehindTheOneThatSetThemOn() {
        Checks.sentence("INTERRUPTS: (and not behind the instruction that set them on)");
        Machine machine = Programs.machineWith("FB 3C 3C");
        machine.want(4);
        machine.step(1);
        Checks.same("on", machine.told(1), 1);
        Checks.same("wanted", machine.told(2), 4);
        Checks.same("the next is done", machine.step(1), 5);
        Checks.same("wanted", machine.told(2), 4);
        Checks.same("then it comes", machine.step(1), 11);
        Checks.same("PC", machine.register(8), 32);
        Checks.same("A", machine.register(7), 1);
    }

    /** A return behind it, as programs have it, and other ones. */
    private static void theNextIsDoneWhateverItIs() {
        Checks.sentence("7: none comes before the next instruction is done");
        sheltered("C9", 10, 0xABCD);
        sheltered("C3 34 02", 10, 0x234);
        sheltered("CD 34 02", 17, 0x234);
        sheltered("D3 07", 10, 0x103);
        sheltered("00", 4, 0x102);
        sheltered("C7", 11, 0);
        sheltered("76", 7, 0x102);
    }

    private static void sheltered(String next, int cycles, int pc) {
        Machine machine = Programs.machineWith("FB " + next);
        Programs.load(machine, 0x800, "CD AB");
        machine.want(7);
        machine.step(1);
        Checks.same(next + " cycles", machine.step(1), cycles);
        Checks.same(next + " PC", machine.register(8), pc);
        Checks.same(next + " is still wanted", machine.told(2), 7);
        int sp = machine.register(9);
        Checks.same(next + ", then the interrupt", machine.step(1), 11);
        Checks.same(next + " PC behind it", machine.register(8), 56);
        Checks.same(next + " pushed", machine.read(sp - 2) + 256 * machine.read(sp - 1), pc);
    }

    private static void thisOneAgain() {
        Checks.sentence("7: (if that is this one again, before one more)");
        for (int count : new int[] {2, 3, 10, 50}) {
            Machine machine = Programs.machineWith("FB ".repeat(count) + "3C 3C");
            machine.want(1);
            Checks.same("all of them, and one more", machine.step(count + 1), 4 * count + 5);
            Checks.same("A", machine.register(7), 1);
            Checks.same("wanted", machine.told(2), 1);
            Checks.same("then it comes", machine.step(1), 11);
            Checks.same("PC", machine.register(8), 8);
        }
    }

    private static void shelterOutlastsOtherCalls() {
        Checks.sentence("7: before the next instruction, whatever calls come between");
        Machine machine = Programs.machineWith("FB 3C 3C");
        machine.step(1);
        machine.want(6);
        machine.step(0);
        machine.put(8, 0x102);
        machine.told(1);
        machine.register(8);
        machine.type(1);
        Checks.refusesArgument("step(-1)", () -> machine.step(-1));
        Checks.refusesArgument("step(3001)", () -> machine.step(3001));
        Checks.same("the next is done", machine.step(1), 5);
        Checks.same("then it comes", machine.step(1), 11);
        Checks.same("PC", machine.register(8), 48);
    }

    private static void onAgainSheltersAgain() {
        Checks.sentence("7: they are on (though they were), but none comes before the next");
        Machine machine = on("FB 3C 3C");
        machine.step(1);
        machine.want(2);
        Checks.same("the next is done", machine.step(1), 5);
        Checks.same("then it comes", machine.step(1), 11);
    }

    private static void offEndsTheShelter() {
        Checks.sentence("6: interrupts are off");
        Machine machine = Programs.machineWith("FB F3 3C 3C");
        machine.want(2);
        Checks.same("on, off, and on with the program", machine.step(4), 18);
        Checks.same("off", machine.told(1), 0);
        Checks.same("wanted", machine.told(2), 2);
        Checks.same("A", machine.register(7), 2);
    }

    private static void afterwardsTheyAreOff() {
        Checks.sentence("INTERRUPTS: it is no longer wanted, they are off");
        Machine machine = on("3C");
        Programs.load(machine, 8, "04 FB 04 04");
        machine.want(1);
        machine.step(1);
        Checks.same("off", machine.told(1), 0);
        machine.want(3);
        Checks.same("no second one", machine.step(3), 14);
        Checks.same("B", machine.register(0), 2);
        Checks.same("the second one, when they are on again", machine.step(1), 11);
        Checks.same("PC", machine.register(8), 24);
        Checks.same("PC was pushed", machine.read(0x7FC), 11);
    }

    private static void pushGoesRound() {
        Checks.sentence("INTERRUPTS: PC is pushed, where SP or PC goes round");
        for (int sp : new int[] {0, 1, 2, 0x1000, 0x1001}) {
            Machine machine = on("00");
            machine.put(8, 0xFFFF);
            machine.put(9, sp);
            machine.want(7);
            machine.step(1);
            Checks.same("SP", machine.register(9), sp - 2 & 0xFFFF);
            Checks.same("lower byte", machine.read(sp - 2 & 4095), 0xFF);
            Checks.same("higher byte", machine.read(sp - 1 & 4095), 0xFF);
            Checks.same("PC", machine.register(8), 56);
        }
    }

    private static void haltedWaitsForOneThatComes() {
        Checks.sentence("INTERRUPTS: a processor that halted goes on");
        Machine machine = on("76 3C");
        Programs.load(machine, 0x10, "C9");
        machine.step(1);
        Checks.same("halted", machine.told(0), 1);
        Checks.same("PC is behind it", machine.register(8), 0x103);
        Checks.same("nobody calls", machine.step(10), 40);
        machine.want(2);
        Checks.same("still halted", machine.told(0), 1);
        Checks.same("the interrupt", machine.step(1), 11);
        Checks.same("it goes on", machine.told(0), 0);
        Checks.same("comes back", machine.step(1), 10);
        Checks.same("behind the one that halted", machine.register(8), 0x103);
        Checks.same("and goes on there", machine.step(1), 5);
        Checks.same("A", machine.register(7), 1);
    }

    private static void haltedStaysWhenTheyAreOff() {
        Checks.sentence("Promise 12: one that is halted, and not called, lets 4 cycles go for each");
        Machine machine = Programs.machineWith("76 3C");
        machine.step(1);
        machine.want(2);
        Checks.same("they are off", machine.step(3), 12);
        Checks.same("halted", machine.told(0), 1);
        Checks.same("wanted", machine.told(2), 2);
        Checks.same("PC", machine.register(8), 0x101);
        Checks.same("SP", machine.register(9), 0x800);
    }

    private static void haltedBehindOn() {
        Checks.sentence("7: none comes before the next instruction is done: it halts");
        Machine machine = Programs.machineWith("FB 76");
        machine.want(2);
        Checks.same("on, and halts", machine.step(2), 11);
        Checks.same("halted", machine.told(0), 1);
        Checks.same("then it comes", machine.step(1), 11);
        Checks.same("not halted", machine.told(0), 0);
        Checks.same("pushed", machine.read(0x7FE), 2);
    }

    private static void putLeavesItHalted() {
        Checks.sentence("Promise 14: 1 if it is halted; put() doesn't change that");
        Machine machine = on("76");
        Programs.load(machine, 0x300, "3C");
        machine.step(1);
        for (int k = 0; k < 10; k++) {
            machine.put(k, k == 9 ? 0x800 : 0x300);
            Checks.same("halted behind put " + k, machine.told(0), 1);
        }
        Checks.same("it lets cycles go", machine.step(2), 8);
        Checks.same("A", machine.register(7), 0);
        Checks.same("PC", machine.register(8), 0x300);
        machine.want(1);
        machine.step(1);
        Checks.same("the PC that was put is pushed", machine.read(0x7FF), 3);
        Checks.same("not halted", machine.told(0), 0);
    }

    private static void haltedCountsFourEach() {
        Checks.sentence("Promise 12: lets 4 cycles go for each");
        Machine machine = Programs.machineWith("76");
        Checks.same("the one that halts counts 7", machine.step(1), 7);
        Checks.same("none", machine.step(0), 0);
        Checks.same("one", machine.step(1), 4);
        Checks.same("3000", machine.step(3000), 12000);
        Checks.same("cycles", machine.cycles(), 12011);
        Machine other = Programs.machineWith("76");
        Checks.same("in one call", other.step(3000), 7 + 2999 * 4);
    }

    private static void interruptsCountAsSteps() {
        Checks.sentence("Promise 12: so many instructions, or interrupts");
        Machine machine = on("3C");
        Programs.load(machine, 16, "04 04 04");
        machine.want(2);
        Checks.same("the interrupt and two behind it", machine.step(3), 21);
        Checks.same("B", machine.register(0), 2);
        Checks.same("A", machine.register(7), 0);
        Checks.same("PC", machine.register(8), 18);
    }

    private static void longStepsAreCounted() {
        Checks.sentence("Promise 12: answers how many cycles that took");
        Machine machine = Programs.machineWith("3C C3 00 01");
        Checks.same("no step", machine.step(0), 0);
        Checks.same("no cycles", machine.cycles(), 0);
        Checks.same("the most steps", machine.step(3000), 1500 * 15);
        Checks.same("A", machine.register(7), 1500 & 255);
        Checks.same("one more", machine.step(1), 5);
        Checks.same("cycles", machine.cycles(), 1500 * 15 + 5);
        Programs.load(machine, 0x300, "E3 C3 00 03");
        machine.put(8, 0x300);
        for (int i = 0; i < 10; i++) {
            Checks.same("long steps", machine.step(3000), 1500 * 28);
        }
        Checks.same("cycles", machine.cycles(), 1500 * 15 + 5 + 15000 * 28);
    }

    /** A program with all that can happen, in one call, in pairs, and one by one. */
    private static void manyStepsAreSingleSteps() {
        Checks.sentence("Promise 12: so many instructions");
        Machine whole = busy();
        Machine pairs = busy();
        Machine single = busy();
        int took = whole.step(300);
        int tookInPairs = 0;
        for (int i = 0; i < 150; i++) {
            tookInPairs += pairs.step(2);
        }
        int tookSingly = 0;
        for (int i = 0; i < 300; i++) {
            tookSingly += single.step(1);
        }
        Checks.same("cycles in pairs", tookInPairs, took);
        Checks.same("cycles one by one", tookSingly, took);
        Checks.same("cycles()", whole.cycles(), took);
        String due = Programs.quickPicture(whole);
        Checks.same("in pairs", Programs.quickPicture(pairs), due);
        Checks.same("one by one", Programs.quickPicture(single), due);
    }

    private static Machine busy() {
        Machine machine = Programs.machineWith("3E 0A D3 05 3E 03 D3 04 3E 01 D3 06"
            + " FB 04 D3 01 76 C3 0C 01");
        Programs.load(machine, 16, "DB 06 81 4F FB C9");
        Ports.fillSector(machine, 0);
        machine.want(2);
        return machine;
    }

    private static void cyclesAreAllCounted() {
        Checks.sentence("Promise 13: how many cycles were done");
        Machine machine = Programs.machineWith("FB 76");
        long done = 0;
        machine.want(1);
        for (int n : new int[] {0, 1, 1, 1, 5, 0, 300, 3000}) {
            done += machine.step(n);
            Checks.same("cycles", machine.cycles(), done);
            Checks.refusesArgument("step(3001)", () -> machine.step(3001));
            Checks.refusesArgument("step(-1)", () -> machine.step(-1));
            Checks.same("no cycles of a refused call", machine.cycles(), done);
        }
    }
}
