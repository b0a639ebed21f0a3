/** The controller, by promises 12 and 14: what it refuses, its first and last byte, and its bounds. */
public final class ControllerTest {
    private static final int BUSY = Ports.BUSY;
    private static final int DONE = Ports.DONE;
    private static final int FAULT = Ports.FAULT;

    public static void main(String[] args) {
        atRest();
        startsWithAllAtZero();
        busyRefusesAndNothingElse();
        unknownCommandsAreFaults();
        sectorsBelow64();
        faultsAtRestMoveNothing();
        acceptedKeepsDoneAndFault();
        faultKeepsDone();
        stateIsTakenByTheProgramAlone();
        busyStaysWhenTaken();
        commandsOwnCyclesDoNotCount();
        twelveCyclesForEach();
        leftOverCyclesCount();
        leftOverCyclesEndWithTheSector();
        interruptsAndWaitsCount();
        lastByteAndNoMore();
        firstAndLastSectorToMemory();
        firstAndLastSectorToDisk();
        sectorOfTheCommand();
        addressGoesRoundItsWord();
        addressGoesRoundMemory();
        addressBytesAreSetAlone();
        addressIsSetWhileBusy();
        addressGoesOnBehindTheSector();
        movedIsToldForThisSector();
        callsByBit3();
        noCallLeavesWanted();
        callReplacesWanted();
        callIsTheLastThatWasTold();
        callWakesOneThatHalted();
        callWaitsForInterrupts();
        movesBehindTheInstruction();
        nextInstructionIsTheMovedOne();
        everySector();
        bytesComeEachTwelveCycles();
        commandInItsLastInstruction();
        programChangesASector();
        portsAreApart();
        bytesMoveAsTheyAreThen();
        callBehindTheOneThatSetsThemOn();
        callInAnInterruptsCycles();
        Checks.end();
    }

    /** Busy with sector 2, to 0x300, behind so many instructions that do nothing. */
    private static Machine busy(int instructions) {
        Machine machine = Ports.told(2, 0x300, 0, "00");
        Ports.fillSector(machine, 2);
        Ports.out(machine, 6, 1);
        machine.step(instructions);
        return machine;
    }

    private static void atRest() {
        Checks.sentence("Promise 1: the controller at rest");
        Machine machine = Programs.machineWith("76");
        Ports.shows("a new one", machine, 0, 0, 0);
        machine.step(3000);
        Ports.shows("and later", machine, 0, 0, 0);
        Checks.same("what the program sees", Ports.in6(new Machine()), 0);
    }

    private static void startsWithAllAtZero() {
        Checks.sentence("Promise 1: sector, address and call before they are told");
        Machine machine = Programs.machineWith("00");
        Ports.fillSector(machine, 0);
        Ports.out(machine, 6, 1);
        machine.step(192);
        Ports.shows("done", machine, DONE, 64, 64);
        for (int i = 0; i < 64; i++) {
            Checks.same("memory " + i, machine.read(i), Ports.diskByte(i));
        }
        Checks.same("no call", machine.told(2), DiskMachine.NONE);
    }

    /** Compared with one that sends the same byte to a port without use. */
    private static void busyRefusesAndNothingElse() {
        Checks.sentence("if it is busy: bit 2 of its STATE is 1, and nothing else");
        for (int command : new int[] {0, 1, 2, 3, 4, 255}) {
            Machine machine = busy(20);
            Machine other = busy(20);
            for (Machine each : new Machine[] {machine, other}) {
                Ports.out(each, 2, 9);
                Ports.out(each, each == machine ? 6 : 7, command);
            }
            Ports.shows("refused " + command, machine, BUSY | FAULT, 8, 0x308);
            Ports.shows("not refused " + command, other, BUSY, 8, 0x308);
            machine.step(166);
            other.step(166);
            Ports.shows("nearly done", machine, BUSY | FAULT, 63, 0x33F);
            machine.step(1);
            other.step(1);
            Ports.shows("done", machine, DONE | FAULT, 64, 0x340);
            Ports.shows("done", other, DONE, 64, 0x340);
            for (int i = 0; i < 64; i++) {
                Checks.same("memory", machine.read(0x300 + i), Ports.diskByte(128 + i));
            }
        }
    }

    private static void unknownCommandsAreFaults() {
        Checks.sentence("else if the byte is 1 or 2 ..; else bit 2 is 1");
        for (int command = 0; command < 256; command++) {
            Machine machine = Ports.told(1, 0x300, 8, "76");
            Ports.out(machine, 6, command);
            boolean known = command == 1 || command == 2;
            Ports.shows("command " + command, machine, known ? BUSY : FAULT, 0, 0x300);
        }
    }

    private static void sectorsBelow64() {
        Checks.sentence("and the sector below 64");
        for (int sector : new int[] {0, 1, 62, 63, 64, 65, 127, 128, 255}) {
            for (int command = 0; command < 4; command++) {
                Machine machine = Ports.told(sector, 0x300, 0, "76");
                Ports.out(machine, 6, command);
                boolean right = sector < 64 && (command == 1 || command == 2);
                Ports.shows("command " + command + ", sector " + sector, machine,
                    right ? BUSY : FAULT, 0, 0x300);
            }
        }
    }

    private static void faultsAtRestMoveNothing() {
        Checks.sentence("else bit 2 is 1, and nothing moves");
        for (int sector : new int[] {5, 64, 255}) {
            int command = sector == 5 ? 3 : 1;
            Machine machine = Ports.told(sector, 0x300, 15, "76");
            Ports.fillSector(machine, 0);
            Ports.fillSector(machine, 5);
            Ports.fillSector(machine, 63);
            Ports.out(machine, 6, command);
            int sum = machine.sum();
            machine.step(1000);
            Ports.shows("a fault", machine, FAULT, 0, 0x300);
            Checks.same("memory", machine.sum(), sum);
            Checks.same("no call", machine.told(2), DiskMachine.NONE);
        }
    }

    private static void acceptedKeepsDoneAndFault() {
        Checks.sentence("it is BUSY (bits 1 and 2 stay as they are)");
        Machine none = Ports.told(2, 0x300, 0, "00");
        Ports.out(none, 6, 1);
        Checks.same("none", none.told(3), BUSY);
        Machine fault = Ports.told(2, 0x300, 0, "00");
        Ports.out(fault, 6, 0);
        Ports.out(fault, 6, 1);
        Checks.same("a fault", fault.told(3), BUSY | FAULT);
        Machine done = busy(192);
        Ports.out(done, 6, 2);
        Checks.same("done", done.told(3), BUSY | DONE);
        Machine both = busy(192);
        Ports.out(both, 6, 0);
        Ports.out(both, 6, 1);
        Checks.same("both", both.told(3), BUSY | DONE | FAULT);
        both.step(192);
        Checks.same("both, when it is done again", both.told(3), DONE | FAULT);
    }

    private static void faultKeepsDone() {
        Checks.sentence("else bit 2 is 1: the others stay");
        Machine machine = busy(192);
        Ports.shows("done", machine, DONE, 64, 0x340);
        Ports.out(machine, 6, 3);
        Ports.shows("done, and a fault", machine, DONE | FAULT, 64, 0x340);
        Ports.out(machine, 6, 0);
        Ports.shows("a fault twice", machine, DONE | FAULT, 64, 0x340);
    }

    private static void stateIsTakenByTheProgramAlone() {
        Checks.sentence("In 6: the state, whose bits 1 and 2 are 0 then");
        Machine machine = busy(192);
        Ports.out(machine, 6, 3);
        Checks.same("told", machine.told(3), DONE | FAULT);
        Checks.same("told again", machine.told(3), DONE | FAULT);
        Checks.same("in 6", Ports.in6(machine), DONE | FAULT);
        Checks.same("told behind it", machine.told(3), 0);
        Checks.same("in 6 again", Ports.in6(machine), 0);
        Ports.shows("the rest stays", machine, 0, 64, 0x340);
    }

    private static void busyStaysWhenTaken() {
        Checks.sentence("In 6: 1 busy, which stays");
        Machine machine = busy(3);
        Ports.out(machine, 6, 1);
        Checks.same("in 6", Ports.in6(machine), BUSY | FAULT);
        Checks.same("in 6 again", Ports.in6(machine), BUSY);
        Checks.same("moved behind 42", machine.told(4), 3);
        machine.step(181);
        Ports.shows("behind 766", machine, BUSY, 63, 0x33F);
        Checks.same("in 6, in whose cycles the last one comes", Ports.in6(machine), BUSY);
        Checks.same("in 6 behind it", Ports.in6(machine), DONE);
    }

    private static void commandsOwnCyclesDoNotCount() {
        Checks.sentence("with each 12 cycles of what is done behind the command's instruction");
        Machine machine = busy(0);
        Checks.same("behind 0", machine.told(4), 0);
        machine.step(2);
        Checks.same("behind 8", machine.told(4), 0);
        machine.step(1);
        Checks.same("behind 12", machine.told(4), 1);
        Checks.same("its byte", machine.read(0x300), Ports.diskByte(128));
        Checks.same("not the next", machine.read(0x301), 0);
    }

    /** Instructions of other lengths, so that 11, 12, 13, 23, 24 and 25 cycles are met. */
    private static void twelveCyclesForEach() {
        Checks.sentence("each 12 cycles one byte moves");
        passes("C5", 11, 0);
        passes("00 00 00", 12, 1);
        passes("3A 00 00", 13, 1);
        passes("E3 04", 23, 1);
        passes("CD 03 01 06 00", 24, 2);
        passes("E3 06 00", 25, 2);
        passes("E3 CD 04 01", 35, 2);
        passes("E3 E3", 36, 3);
        passes("E3", 18, 1);
    }

    private static void passes(String program, int cycles, int moved) {
        Machine machine = Ports.told(2, 0x300, 0, program + " 76");
        Ports.fillSector(machine, 2);
        Ports.out(machine, 6, 1);
        int passed = 0;
        for (int i = 0; i < 3 && passed < cycles; i++) {
            passed += machine.step(1);
        }
        Checks.same("cycles of " + program, passed, cycles);
        Ports.shows("behind " + cycles, machine, BUSY, moved, 0x300 + moved);
        for (int i = 0; i < 4; i++) {
            Checks.same("byte " + i + " behind " + cycles, machine.read(0x300 + i),
                i < moved ? Ports.diskByte(128 + i) : 0);
        }
    }

    private static void leftOverCyclesCount() {
        Checks.sentence("each 12 cycles, whatever instructions they are in");
        Machine machine = Ports.told(2, 0x300, 0, "E3 C5 3A 00 00 CD 09 01 00 06 05 C3 00 01");
        Ports.out(machine, 6, 1);
        int passed = 0;
        for (int i = 0; i < 80; i++) {
            passed += machine.step(1);
            int moved = Math.min(64, passed / 12);
            Checks.same("moved behind " + passed, machine.told(4), moved);
            Checks.same("state behind " + passed, machine.told(3), moved < 64 ? BUSY : DONE);
        }
    }

    /** The sector ends with 2, 3, 8 or 10 cycles more than it needs. */
    private static void leftOverCyclesEndWithTheSector() {
        Checks.sentence("From when it is busy: none are left over from before");
        endsWith(191, "E3", 782);
        endsWith(191, "06 00", 771);
        endsWith(190, "22 00 05", 776);
        endsWith(190, "E3", 778);
    }

    private static void endsWith(int before, String last, int cycles) {
        Machine machine = busy(before);
        Programs.load(machine, machine.register(8), last);
        Checks.same("cycles of the last one", machine.step(1), cycles - 4 * before);
        Ports.shows("done behind " + cycles, machine, DONE, 64, 0x340);
        Ports.out(machine, 6, 1);
        machine.step(2);
        Checks.same("none behind 8, behind " + cycles, machine.told(4), 0);
        machine.step(1);
        Checks.same("one behind 12, behind " + cycles, machine.told(4), 1);
    }

    private static void interruptsAndWaitsCount() {
        Checks.sentence("(instructions, interrupts, the 4 of one that is halted)");
        Machine machine = Ports.told(2, 0x300, 0, "FB 76");
        Programs.load(machine, 8, "76");
        Ports.out(machine, 6, 1);
        machine.step(2);
        Checks.same("on, and halted: none behind 11", machine.told(4), 0);
        machine.step(1);
        Checks.same("halted: one behind 15", machine.told(4), 1);
        machine.want(1);
        machine.step(1);
        Checks.same("the interrupt: two behind 26", machine.told(4), 2);
        machine.step(1);
        Checks.same("halts again: two behind 33", machine.told(4), 2);
        machine.step(1);
        Checks.same("halted: three behind 37", machine.told(4), 3);
        machine.step(182);
        Checks.same("halted: 63 behind 765", machine.told(4), 63);
        machine.step(1);
        Checks.same("halted: all behind 769", machine.told(4), 64);
    }

    private static void lastByteAndNoMore() {
        Checks.sentence("Behind the last one it isn't busy, bit 1 is 1");
        Machine machine = busy(191);
        Ports.shows("behind 764", machine, BUSY, 63, 0x33F);
        Checks.same("the last is not there yet", machine.read(0x33F), 0);
        machine.step(1);
        Ports.shows("behind 768", machine, DONE, 64, 0x340);
        Checks.same("the last is there", machine.read(0x33F), Ports.diskByte(191));
        int sum = machine.sum();
        machine.step(1000);
        Ports.shows("later", machine, DONE, 64, 0x340);
        Checks.same("none behind the last", machine.sum(), sum);
        Machine twice = busy(190);
        Programs.load(twice, twice.register(8), "04 E3");
        twice.writeDisk(192, 99);
        twice.step(1);
        Ports.shows("behind 765", twice, BUSY, 63, 0x33F);
        twice.step(1);
        Ports.shows("behind 783, which is one byte's cycles too many", twice, DONE, 64, 0x340);
        Checks.same("none behind the last", twice.read(0x340), 0);
    }

    private static void firstAndLastSectorToMemory() {
        Checks.sentence("a SECTOR are 64 bytes of the disk, from 64 times its number on: to memory");
        for (int sector : new int[] {0, 1, 62, 63}) {
            Machine machine = Ports.told(sector, 0x300, 0, "76");
            Ports.fillSector(machine, sector);
            Ports.out(machine, 6, 1);
            machine.step(193);
            for (int i = 0; i < 64; i++) {
                Checks.same("sector " + sector + ", byte " + i, machine.read(0x300 + i),
                    Ports.diskByte(64 * sector + i));
                Checks.same("the disk stays", machine.readDisk(64 * sector + i),
                    Ports.diskByte(64 * sector + i));
            }
            Checks.same("before it", machine.read(0x2FF), 0);
            Checks.same("behind it", machine.read(0x340), 0);
        }
    }

    private static void firstAndLastSectorToDisk() {
        Checks.sentence("a SECTOR are 64 bytes of the disk, from 64 times its number on: to the disk");
        for (int sector : new int[] {0, 1, 62, 63}) {
            Machine machine = Ports.told(sector, 0x300, 0, "76");
            int start = 64 * sector;
            machine.writeDisk(start + 64 & 4095, 71);
            machine.writeDisk(start - 1 & 4095, 72);
            for (int i = -1; i < 65; i++) {
                machine.write(0x300 + i, 150 + i);
            }
            Ports.out(machine, 6, 2);
            int sum = machine.sum();
            machine.step(193);
            for (int i = 0; i < 64; i++) {
                Checks.same("sector " + sector + ", byte " + i, machine.readDisk(start + i), 150 + i);
            }
            Checks.same("the byte behind it", machine.readDisk(start + 64 & 4095), 71);
            Checks.same("the byte before it", machine.readDisk(start - 1 & 4095), 72);
            Checks.same("memory stays", machine.sum(), sum);
        }
    }

    private static void sectorOfTheCommand() {
        Checks.sentence("(the one told when the command came)");
        Machine machine = busy(0);
        Ports.fillSector(machine, 3);
        Ports.out(machine, 2, 3);
        machine.step(190);
        Checks.same("the first", machine.read(0x300), Ports.diskByte(128));
        Checks.same("the last", machine.read(0x33F), Ports.diskByte(191));
        Ports.out(machine, 6, 1);
        machine.step(192);
        Checks.same("the first of the next command", machine.read(0x340), Ports.diskByte(192));
        Ports.out(machine, 2, 64);
        Ports.out(machine, 6, 1);
        Checks.same("a wrong one, told later", machine.told(3), DONE | FAULT);
    }

    private static void addressGoesRoundItsWord() {
        Checks.sentence("at the address (a word, that goes on by 1): behind 0xFFFF");
        Machine machine = Ports.told(2, 0xFFFE, 0, "00");
        Ports.fillSector(machine, 2);
        Ports.out(machine, 6, 1);
        int[] due = {0xFFFE, 0xFFFF, 0, 1};
        for (int moved = 0; moved < 4; moved++) {
            Ports.shows("behind " + moved, machine, BUSY, moved, due[moved]);
            machine.step(3);
        }
        for (int i = 0; i < 4; i++) {
            Checks.same("byte " + i, machine.read(0xFFE + i & 4095), Ports.diskByte(128 + i));
        }
    }

    private static void addressGoesRoundMemory() {
        Checks.sentence("memory, at the address, modulo 4096: behind 0x0FFF, both ways");
        Machine machine = Ports.told(2, 0x0FFF, 0, "76");
        Ports.fillSector(machine, 2);
        Ports.out(machine, 6, 1);
        machine.step(193);
        Ports.shows("its word goes on", machine, DONE, 64, 0x103F);
        Checks.same("the first", machine.read(0xFFF), Ports.diskByte(128));
        for (int i = 1; i < 64; i++) {
            Checks.same("byte " + i, machine.read(i - 1), Ports.diskByte(128 + i));
        }
        Machine back = Ports.told(2, 0x7FFF, 0, "76");
        back.write(0xFFF, 91);
        for (int i = 0; i < 63; i++) {
            back.write(i, 92 + i);
        }
        Ports.out(back, 6, 2);
        back.step(193);
        Ports.shows("its word goes on", back, DONE, 64, 0x803F);
        for (int i = 0; i < 64; i++) {
            Checks.same("disk byte " + i, back.readDisk(128 + i), 91 + i);
        }
    }

    private static void addressBytesAreSetAlone() {
        Checks.sentence("Out 3, out 4: the low and high byte of the controller's ADDRESS");
        Machine machine = new Machine();
        Ports.out(machine, 3, 255);
        Ports.shows("low", machine, 0, 0, 0x00FF);
        Ports.out(machine, 4, 255);
        Ports.shows("high", machine, 0, 0, 0xFFFF);
        Ports.out(machine, 3, 0);
        Ports.shows("low again", machine, 0, 0, 0xFF00);
        Ports.out(machine, 4, 0);
        Ports.shows("high again", machine, 0, 0, 0);
    }

    private static void addressIsSetWhileBusy() {
        Checks.sentence("out 3 and out 4 change it at any time");
        Machine machine = busy(3);
        Ports.shows("one moved", machine, BUSY, 1, 0x301);
        Ports.out(machine, 3, 0x80);
        Ports.shows("low, behind 22", machine, BUSY, 1, 0x380);
        Ports.out(machine, 4, 0x54);
        Ports.shows("high, behind 32: it was changed first", machine, BUSY, 2, 0x5481);
        Checks.same("the first", machine.read(0x300), Ports.diskByte(128));
        Checks.same("not where it was", machine.read(0x301), 0);
        Checks.same("nor half of it", machine.read(0x380), 0);
        Checks.same("the second", machine.read(0x480), Ports.diskByte(129));
        machine.step(184);
        Ports.shows("done", machine, DONE, 64, 0x54BF);
        Checks.same("the last", machine.read(0x4BE), Ports.diskByte(191));
        Ports.out(machine, 3, 0x12);
        Ports.shows("behind it", machine, DONE, 64, 0x5412);
    }

    private static void addressGoesOnBehindTheSector() {
        Checks.sentence("the address (a word, that goes on by 1): from one sector to the next");
        Machine machine = busy(192);
        Ports.shows("the first", machine, DONE, 64, 0x340);
        Ports.out(machine, 6, 1);
        machine.step(192);
        Ports.shows("the second", machine, DONE, 64, 0x380);
        Checks.same("its first byte", machine.read(0x340), Ports.diskByte(128));
        Checks.same("its last byte", machine.read(0x37F), Ports.diskByte(191));
    }

    private static void movedIsToldForThisSector() {
        Checks.sentence("Promise 14: how many bytes it has moved of this sector (64 .., 0 ..)");
        Machine machine = busy(0);
        Checks.same("before any", machine.told(4), 0);
        machine.step(191);
        Checks.same("before the last", machine.told(4), 63);
        machine.step(1);
        Checks.same("behind the last", machine.told(4), 64);
        Ports.out(machine, 6, 0);
        Checks.same("behind a fault", machine.told(4), 64);
        Checks.same("in 6", Ports.in6(machine), DONE | FAULT);
        Checks.same("behind in 6", machine.told(4), 64);
        Ports.out(machine, 6, 2);
        Checks.same("before any of the next", machine.told(4), 0);
        machine.step(3);
        Checks.same("behind the first of the next", machine.told(4), 1);
    }

    private static void callsByBit3() {
        Checks.sentence("the controller's CALL: bit 3 is 1 if it calls, bits 0 to 2 with which");
        for (int call = 0; call < 256; call++) {
            Machine machine = Ports.told(2, 0x300, call, "00");
            Ports.out(machine, 6, 1);
            machine.step(191);
            Checks.same("none before the last", machine.told(2), DiskMachine.NONE);
            machine.step(1);
            Checks.same("call " + call, machine.told(2), call / 8 % 2 == 1 ? call % 8 : -1);
        }
    }

    private static void noCallLeavesWanted() {
        Checks.sentence("if it calls the interrupt is wanted, else another one stays so");
        Machine machine = Ports.told(2, 0x300, 0xF7, "76");
        Ports.out(machine, 6, 1);
        machine.want(4);
        machine.step(200);
        Ports.shows("done", machine, DONE, 64, 0x340);
        Checks.same("wanted", machine.told(2), 4);
    }

    private static void callReplacesWanted() {
        Checks.sentence("the interrupt is wanted, in place of another one");
        Machine machine = Ports.told(2, 0x300, 8, "00");
        Ports.out(machine, 6, 1);
        machine.want(4);
        machine.step(191);
        Checks.same("wanted", machine.told(2), 4);
        machine.step(1);
        Checks.same("in its place", machine.told(2), 0);
        machine.want(6);
        machine.step(300);
        Checks.same("it calls once", machine.told(2), 6);
    }

    private static void callIsTheLastThatWasTold() {
        Checks.sentence("if it calls: as it was told last, behind the last byte");
        Machine machine = Ports.told(2, 0x300, 9, "00");
        Ports.out(machine, 6, 1);
        machine.step(100);
        Ports.out(machine, 5, 14);
        machine.step(92);
        Checks.same("another", machine.told(2), 6);
        Machine none = Ports.told(2, 0x300, 9, "00");
        Ports.out(none, 6, 1);
        none.step(100);
        Ports.out(none, 5, 6);
        none.step(92);
        Ports.shows("done", none, DONE, 64, 0x340);
        Checks.same("none", none.told(2), DiskMachine.NONE);
    }

    private static void callWakesOneThatHalted() {
        Checks.sentence("calls it when it is done: one that halted goes on");
        Machine machine = Ports.told(2, 0x300, 15, "FB 76 3C");
        Programs.load(machine, 56, "C9");
        Ports.out(machine, 6, 1);
        machine.step(2);
        machine.step(189);
        Ports.shows("behind 767", machine, BUSY, 63, 0x33F);
        Checks.same("halted", machine.told(0), 1);
        Checks.same("the last wait", machine.step(1), 4);
        Checks.same("wanted", machine.told(2), 7);
        Checks.same("still halted", machine.told(0), 1);
        Checks.same("the interrupt", machine.step(1), 11);
        Checks.same("it goes on", machine.told(0), 0);
        Checks.same("behind the one that halted", machine.step(2), 15);
        Checks.same("A", machine.register(7), 1);
    }

    private static void callWaitsForInterrupts() {
        Checks.sentence("the interrupt is wanted: it comes when they are on");
        Machine machine = Ports.told(2, 0x300, 10, "76");
        Ports.out(machine, 6, 1);
        machine.step(300);
        Checks.same("wanted", machine.told(2), 2);
        Checks.same("halted", machine.told(0), 1);
        Checks.same("off", machine.told(1), 0);
    }

    private static void movesBehindTheInstruction() {
        Checks.sentence("(All that comes in an instruction's cycles moves behind the instruction.)");
        Machine machine = Ports.told(0, 0x300, 0, "3A 00 03 3A 00 03");
        machine.writeDisk(0, 99);
        machine.write(0x300, 44);
        Ports.out(machine, 6, 1);
        machine.step(1);
        Checks.same("A was read before", machine.register(7), 44);
        Checks.same("the byte has moved", machine.read(0x300), 99);
        machine.step(1);
        Checks.same("A is read behind it", machine.register(7), 99);
        Machine over = Ports.told(0, 0x300, 0, "32 00 03");
        over.writeDisk(0, 99);
        over.put(7, 55);
        Ports.out(over, 6, 1);
        over.step(1);
        Checks.same("the byte goes over what was stored", over.read(0x300), 99);
        Machine back = Ports.told(0, 0x300, 0, "32 00 03");
        back.put(7, 55);
        Ports.out(back, 6, 2);
        back.step(1);
        Checks.same("what was stored goes to the disk", back.readDisk(0), 55);
    }

    /** The sector falls on the program itself: what came is what is done next. */
    private static void nextInstructionIsTheMovedOne() {
        Checks.sentence("one byte moves, between the disk and memory, while the processor goes on");
        Machine machine = Ports.told(0, 0x103, 0, "3A 00 00 04 00");
        machine.writeDisk(0, 0x0C);
        Ports.out(machine, 6, 1);
        machine.step(2);
        Checks.same("not what was there", machine.register(0), 0);
        Checks.same("but what came", machine.register(1), 1);
    }

    private static void everySector() {
        Checks.sentence("a SECTOR are 64 bytes of the disk, from 64 times its number on");
        for (int sector = 0; sector < 256; sector++) {
            Machine machine = Ports.told(sector, 0x200, 0, "76");
            machine.writeDisk(sector * 64 & 4095, 9);
            Ports.out(machine, 6, 1);
            Checks.same("state of sector " + sector, machine.told(3), sector < 64 ? BUSY : FAULT);
            machine.step(4);
            Checks.same("byte of sector " + sector, machine.read(0x200), sector < 64 ? 9 : 0);
        }
    }

    private static void bytesComeEachTwelveCycles() {
        Checks.sentence("each 12 cycles one byte moves, from the first to the last");
        for (int count = 0; count < 200; count++) {
            Machine machine = Ports.told(0, 0x200, 0, "00");
            Ports.fillSector(machine, 0);
            Ports.out(machine, 6, 1);
            int passed = machine.step(count);
            int moved = Math.min(64, passed / 12);
            Ports.shows("behind " + passed, machine, moved < 64 ? BUSY : DONE, moved, 0x200 + moved);
            for (int i = 0; i < 65; i++) {
                Checks.same("byte " + i + " behind " + passed, machine.read(0x200 + i),
                    i < moved ? Ports.diskByte(i) : 0);
            }
        }
    }

    /** The last instruction leaves cycles for two bytes, but only one is left in the sector. */
    private static void nothingMovesBehindTheLast() {
        Checks.sentence("if it is busy: bit 2 is 1, even where the last byte comes just behind");
        Machine machine = Ports.told(0, 0x300, 0, "00");
        Ports.fillSector(machine, 0);
        Ports.out(machine, 6, 1);
        machine.step(188);
        machine.write(machine.register(8), 0x3C);
        machine.write(machine.register(8) + 1, 0x3C);
        machine.step(2);
        Ports.shows("behind 762", machine, BUSY, 63, 0x33F);
        machine.write(machine.register(8), 0xE3);
        machine.put(9, 0xE00);
        machine.step(1);
        Ports.shows("behind 780", machine, DONE, 64, 0x340);
        Checks.same("the last byte", machine.read(0x33F), Ports.diskByte(63));
        Checks.same("none behind it", machine.read(0x340), 0);
    }

    private static void addressWraps() {
        Machine machine = Ports.told(1, 0xFFE0, 0, "76");
        Ports.fillSector(machine, 1);
        Ports.out(machine, 6, 1);
        machine.step(1 + 64 * 3);
        Ports.shows("wrapped", machine, DONE, 64, 0x20);
        for (int i = 0; i < 64; i++) {
            Checks.same("memory", machine.read(0xFE0 + i & 4095), Ports.diskByte(64 + i));
        }
        Machine other = Ports.told(1, 0x1FFF, 0, "76");
        Ports.fillSector(other, 1);
        Ports.out(other, 6, 1);
        other.step(1 + 64 * 3);
        Ports.shows("beyond memory", other, DONE, 64, 0x203F);
        Checks.same("the first", other.read(0xFFF), Ports.diskByte(64));
        Checks.same("the second", other.read(0), Ports.diskByte(65));
    }

    private static void callsAreMade() {
        for (int call = 0; call < 256; call++) {
            Machine machine = Ports.told(1, 0x300, call, "76");
            Ports.out(machine, 6, 1);
            machine.step(1 + 190);
            Checks.same("one is left", machine.told(4), 63);
            Checks.same("none wanted yet", machine.told(2), DiskMachine.NONE);
            machine.step(1);
            int due = (call & 8) != 0 ? call & 7 : DiskMachine.NONE;
            Checks.same("call " + call, machine.told(2), due);
            Ports.shows("done", machine, DONE, 64, 0x340);
        }
        Machine machine = Ports.told(1, 0x300, 9, "76");
        Ports.out(machine, 6, 1);
        Ports.out(machine, 5, 12);
        machine.step(250);
        Checks.same("the call when it is done", machine.told(2), 4);
    }

    private static void callReplacesAnother() {
        Machine machine = Ports.told(1, 0x300, 13, "FB 76");
        machine.want(2);
        Ports.out(machine, 6, 1);
        machine.write(16, 0x76);
        machine.step(4);
        Checks.same("2 was answered", machine.register(8), 17);
        machine.want(3);
        machine.step(200);
        Checks.same("in place of 3", machine.told(2), 5);
        machine.want(1);
        machine.step(50);
        Checks.same("only once", machine.told(2), 1);
    }

    private static void faults() {
        for (int command = 0; command < 256; command++) {
            Machine machine = Ports.told(1, 0x300, 8, "76");
            Ports.out(machine, 6, command);
            boolean known = command == 1 || command == 2;
            Ports.shows("command " + command, machine, known ? BUSY : FAULT, 0, 0x300);
        }
        faultWhileBusy();
    }

    private static void faultWhileBusy() {
        Machine machine = Ports.told(1, 0x300, 8, "00");
        Ports.fillSector(machine, 1);
        Ports.fillSector(machine, 3);
        Ports.out(machine, 6, 1);
        machine.step(20);
        Checks.same("moved behind 80", machine.told(4), 6);
        Ports.out(machine, 2, 3);
        Ports.out(machine, 6, 2);
        Checks.same("a fault while busy", machine.told(3), BUSY | FAULT);
        Checks.same("it goes on: moved behind 100", machine.told(4), 8);
        machine.step(200);
        Ports.shows("done, and the fault stays", machine, DONE | FAULT, 64, 0x340);
        for (int i = 0; i < 64; i++) {
            Checks.same("the first command's bytes", machine.read(0x300 + i), Ports.diskByte(64 + i));
            Checks.same("sector 3 stays", machine.readDisk(192 + i), Ports.diskByte(192 + i));
        }
    }

    private static void stateIsTaken() {
        Machine machine = Ports.told(1, 0x300, 0, "76");
        Checks.same("at rest", Ports.in6(machine), 0);
        Ports.out(machine, 6, 3);
        Checks.same("a fault", Ports.in6(machine), FAULT);
        Checks.same("taken", machine.told(3), 0);
        Ports.out(machine, 6, 7);
        Ports.out(machine, 6, 1);
        Checks.same("the fault stays", machine.told(3), BUSY | FAULT);
        Checks.same("busy with a fault", Ports.in6(machine), BUSY | FAULT);
        Checks.same("busy stays", machine.told(3), BUSY);
        Checks.same("busy", Ports.in6(machine), BUSY);
        machine.step(200);
        Checks.same("done", machine.told(3), DONE);
    }

    /** A command that comes while the last byte is still due is a fault, though the byte moves then. */
    private static void commandInItsLastInstruction() {
        Machine machine = Ports.told(1, 0x300, 0, "00");
        Ports.out(machine, 6, 1);
        machine.step(190);
        Checks.same("63 moved behind 760", machine.told(4), 63);
        Ports.out(machine, 6, 1);
        Ports.shows("refused, and done behind it", machine, DONE | FAULT, 64, 0x340);
        Checks.same("taken", Ports.in6(machine), DONE | FAULT);
        Ports.out(machine, 6, 2);
        Checks.same("now it is busy", machine.told(3), BUSY);
        machine.step(190);
        Checks.same("63 moved", machine.told(4), 63);
        Checks.same("busy is what the program reads", Ports.in6(machine), BUSY);
        Checks.same("done behind the instruction", machine.told(3), DONE);
    }

    /** Waits for a sector by asking, adds 1 to its bytes, and sends it to another one, halted. */
    private static void programChangesASector() {
        Checks.sentence("a whole program");
        Machine machine = Programs.machineWith("31 00 08 3E 04 D3 04 3E 07 D3 02 3E 01 D3 06"
            + " DB 06 E6 02 CA 0F 01 21 00 04 34 2C 7D FE 40 C2 19 01"
            + " AF D3 03 3E 04 D3 04 3E 3F D3 02 3E 0D D3 05 FB 3E 02 D3 06 76 DB 06 76");
        Programs.load(machine, 0x28, "04 C9");
        Ports.fillSector(machine, 7);
        machine.step(1000);
        Checks.same("halted at its end", machine.told(0), 1);
        Checks.same("PC", machine.register(8), 0x139);
        Checks.same("called once", machine.register(0), 1);
        Checks.same("done", machine.register(7), DONE);
        Ports.shows("at rest", machine, 0, 64, 0x440);
        for (int i = 0; i < 64; i++) {
            Checks.same("byte " + i, machine.readDisk(4032 + i), Ports.diskByte(448 + i) + 1 & 255);
        }
    }

    /** One byte more to one port, or from it, must not change what the others were told. */
    private static void portsAreApart() {
        Checks.sentence("Out 1 to out 5: each tells its own");
        for (int port = 0; port < 8; port++) {
            if (port != 6) {
                Machine machine = Ports.told(2, 0x300, 9, "76");
                machine.writeDisk(64 * 2, 52);
                machine.writeDisk(64 * 11, 61);
                Ports.out(machine, port, 11);
                outcome("out " + port, machine, port == 2 ? 61 : 52,
                    port == 3 ? 0x30B : port == 4 ? 0xB00 : 0x300, port == 5 ? 3 : 1);
                Checks.same("written behind out " + port, machine.written(), port == 1 ? 1 : 0);
            }
        }
        for (int port = 0; port < 8; port++) {
            Machine machine = Ports.told(2, 0x300, 9, "76");
            machine.writeDisk(64 * 2, 52);
            Programs.load(machine, 0x500, "DB " + Programs.hex(port));
            machine.put(8, 0x500);
            machine.step(1);
            machine.put(8, 0x100);
            outcome("in " + port, machine, 52, 0x300, 1);
        }
    }

    private static void outcome(String name, Machine machine, int first, int address, int wanted) {
        Ports.shows(name, machine, 0, 0, address);
        Ports.out(machine, 6, 1);
        machine.step(193);
        Ports.shows(name + ", done", machine, DONE, 64, address + 64);
        Checks.same(name + ", the first byte", machine.read(address), first);
        Checks.same(name + ", wanted", machine.told(2), wanted);
    }

    private static void bytesMoveAsTheyAreThen() {
        Checks.sentence("byte by byte while the processor goes on: each as it is when it moves");
        Machine machine = busy(6);
        machine.writeDisk(128, 11);
        machine.writeDisk(130, 12);
        machine.step(186);
        Checks.same("the first had moved", machine.read(0x300), Ports.diskByte(128));
        Checks.same("the second had moved", machine.read(0x301), Ports.diskByte(129));
        Checks.same("the third had not", machine.read(0x302), 12);
        Machine back = Ports.told(2, 0x300, 0, "00");
        back.write(0x300, 21);
        back.write(0x301, 22);
        Ports.out(back, 6, 2);
        back.step(3);
        back.write(0x300, 31);
        back.write(0x301, 32);
        back.step(3);
        Checks.same("the first had moved", back.readDisk(128), 21);
        Checks.same("the second had not", back.readDisk(129), 32);
        Checks.same("the rest has not yet", back.readDisk(130), 0);
    }

    private static void callBehindTheOneThatSetsThemOn() {
        Checks.sentence("none comes before the next instruction is done: the controller's, too");
        Machine machine = Ports.told(2, 0x300, 11, "00");
        Ports.out(machine, 6, 1);
        machine.step(191);
        Programs.load(machine, machine.register(8), "FB 3C 3C");
        machine.step(1);
        Checks.same("wanted", machine.told(2), 3);
        Checks.same("on", machine.told(1), 1);
        Checks.same("the next is done", machine.step(1), 5);
        Checks.same("then it comes", machine.step(1), 11);
        Checks.same("PC", machine.register(8), 24);
        Checks.same("A", machine.register(7), 1);
    }

    private static void callInAnInterruptsCycles() {
        Checks.sentence("Behind the last one .. the interrupt is wanted: in another one's cycles");
        Machine machine = Ports.told(2, 0x300, 11, "FB");
        Ports.out(machine, 6, 1);
        machine.step(190);
        Checks.same("63 behind 760", machine.told(4), 63);
        machine.want(6);
        Checks.same("the other one", machine.step(1), 11);
        Checks.same("PC", machine.register(8), 48);
        Ports.shows("done behind 771", machine, DONE, 64, 0x340);
        Checks.same("wanted", machine.told(2), 3);
        Checks.same("but they are off", machine.step(1), 4);
        Checks.same("still wanted", machine.told(2), 3);
    }
}
