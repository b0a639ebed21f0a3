/** Promises 8 to 10 and the console's ports: nothing there, all full, and one more than that. */
public final class ConsoleTest {
    private static final String TAKE = "DB 01 C3 00 01";
    private static final String WRITE = "D3 01 C6 07 C3 00 01";

    public static void main(String[] args) {
        noInputIsTold();
        noInputIsTaken();
        aTypedZeroIsInput();
        lastInputIsGone();
        inputIsFullAt64();
        fullInputIsKept();
        fullInputHasRoomAgain();
        inputGoesRound();
        nothingIsWritten();
        oneIsWritten();
        textAtItsEdges();
        allThatIsKeptIsRight();
        manyAreCounted();
        anyByteIsWritten();
        textIsWhatWasWritten();
        otherPortsDoNothing();
        Checks.end();
    }

    private static int in(Machine machine, int port) {
        Programs.load(machine, 0x100, "DB " + Programs.hex(port));
        machine.put(8, 0x100);
        machine.put(7, 0x5A);
        Checks.same("cycles of in " + port, machine.step(1), 10);
        return machine.register(7);
    }

    private static void noInputIsTold() {
        Checks.sentence("in 0: 1 if there is a byte of INPUT, else 0");
        Machine machine = new Machine();
        Checks.same("none", in(machine, 0), 0);
        machine.type(200);
        Checks.same("one", in(machine, 0), 1);
        Checks.same("it is still there", in(machine, 0), 1);
        machine.type(201);
        Checks.same("two", in(machine, 0), 1);
        for (int i = 3; i <= 64; i++) {
            machine.type(i);
        }
        Checks.same("64", in(machine, 0), 1);
        Checks.same("none was taken", machine.type(1), DiskMachine.NONE);
    }

    private static void noInputIsTaken() {
        Checks.sentence("In 1: the first byte of input, which is gone; 0 if there is none");
        Machine machine = new Machine();
        Checks.same("none", in(machine, 1), 0);
        Checks.same("none again", in(machine, 1), 0);
        Checks.same("nothing is owed", machine.type(9), 1);
        Checks.same("one", in(machine, 1), 9);
        Checks.same("it is gone", in(machine, 1), 0);
        Checks.same("and was one", machine.type(8), 1);
    }

    private static void aTypedZeroIsInput() {
        Checks.sentence("in 0: 1 if there is a byte of INPUT, be it 0");
        Machine machine = new Machine();
        machine.type(0);
        Checks.same("in 0", in(machine, 0), 1);
        Checks.same("in 1", in(machine, 1), 0);
        Checks.same("in 0 behind it", in(machine, 0), 0);
    }

    private static void lastInputIsGone() {
        Checks.sentence("in 0: else 0, behind the last byte");
        Machine machine = new Machine();
        machine.type(3);
        machine.type(4);
        Checks.same("the first", in(machine, 1), 3);
        Checks.same("one is left", in(machine, 0), 1);
        Checks.same("the last", in(machine, 1), 4);
        Checks.same("none is left", in(machine, 0), 0);
    }

    private static void inputIsFullAt64() {
        Checks.sentence("Promise 8: answers how many there are; NONE when there are 64");
        Machine machine = new Machine();
        for (int i = 1; i <= 64; i++) {
            Checks.same("type", machine.type(255 - i), i);
        }
        Checks.same("one more", machine.type(1), DiskMachine.NONE);
        Checks.same("and one more", machine.type(2), DiskMachine.NONE);
        Checks.refusesArgument("a wrong one, though it is full", () -> machine.type(256));
        Checks.refusesArgument("another, though it is full", () -> machine.type(-1));
        Checks.same("still full", machine.type(3), DiskMachine.NONE);
    }

    private static void fullInputIsKept() {
        Checks.sentence("a call that answers NONE changes nothing");
        Machine machine = Programs.machineWith(TAKE);
        for (int i = 0; i < 64; i++) {
            machine.type(100 + i);
        }
        machine.type(7);
        machine.type(8);
        for (int i = 0; i < 64; i++) {
            machine.step(2);
            Checks.same("key " + i, machine.register(7), 100 + i);
        }
        machine.step(2);
        Checks.same("none behind the 64th", machine.register(7), 0);
        Checks.same("how many there are", machine.type(5), 1);
    }

    private static void fullInputHasRoomAgain() {
        Checks.sentence("Promise 8: NONE when there are 64, and not when one is gone");
        Machine machine = Programs.machineWith(TAKE);
        for (int i = 0; i < 64; i++) {
            machine.type(i);
        }
        machine.step(2);
        Checks.same("63 and one more", machine.type(64), 64);
        Checks.same("full again", machine.type(65), DiskMachine.NONE);
        machine.step(4);
        Checks.same("62 and one more", machine.type(66), 63);
    }

    private static void inputGoesRound() {
        Checks.sentence("In 1: the first byte of input, far behind the 64th");
        Machine machine = Programs.machineWith(TAKE);
        for (int i = 0; i < 40; i++) {
            machine.type(i);
        }
        for (int i = 0; i < 90; i++) {
            machine.step(2);
            Checks.same("key " + i, machine.register(7), i);
            Checks.same("type", machine.type(40 + i), 40);
        }
        for (int i = 90; i < 130; i++) {
            machine.step(2);
            Checks.same("key " + i, machine.register(7), i);
        }
    }

    private static void nothingIsWritten() {
        Checks.sentence("Promises 9 and 10: before any");
        Machine machine = new Machine();
        Checks.same("written", machine.written(), 0);
        for (int i : new int[] {0, -1, 1, 255, 256}) {
            Checks.refusesIndex("text(" + i + ")", () -> machine.text(i));
        }
        Checks.same("written", machine.written(), 0);
    }

    private static void oneIsWritten() {
        Checks.sentence("Promise 10: written byte i, from 0 on");
        Machine machine = Programs.machineWith(WRITE);
        machine.put(7, 0x9C);
        Checks.same("cycles of out 1", machine.step(1), 10);
        Checks.same("written", machine.written(), 1);
        Checks.same("text(0)", machine.text(0), 0x9C);
        Checks.refusesIndex("text(-1)", () -> machine.text(-1));
        Checks.refusesIndex("text(1)", () -> machine.text(1));
        Checks.same("text(0) again", machine.text(0), 0x9C);
    }

    private static Machine having(int count) {
        Machine machine = Programs.machineWith(WRITE);
        machine.step(3 * count);
        return machine;
    }

    private static void textAtItsEdges() {
        Checks.sentence("Promise 10: the last 256 are kept");
        for (int count : new int[] {1, 2, 128, 255, 256, 257, 258, 511, 512, 513, 600, 767, 768, 1000}) {
            Machine machine = having(count);
            String name = " of " + count;
            int first = Math.max(0, count - 256);
            Checks.same("written", machine.written(), count);
            Checks.same("the last" + name, machine.text(count - 1), (count - 1) * 7 & 255);
            Checks.same("the first kept" + name, machine.text(first), first * 7 & 255);
            Checks.refusesIndex("the one before it" + name, () -> machine.text(first - 1));
            Checks.refusesIndex("the next" + name, () -> machine.text(count));
            Checks.refusesIndex("far before" + name, () -> machine.text(Integer.MIN_VALUE));
            Checks.refusesIndex("far behind" + name, () -> machine.text(Integer.MAX_VALUE));
        }
    }

    private static void allThatIsKeptIsRight() {
        Checks.sentence("Promise 10: the last 256 are kept, each of them");
        for (int count : new int[] {256, 257, 300, 512, 777}) {
            Machine machine = having(count);
            for (int i = count - 256; i < count; i++) {
                Checks.same("text(" + i + ") of " + count, machine.text(i), i * 7 & 255);
            }
        }
    }

    private static void manyAreCounted() {
        Checks.sentence("Promise 9: how many bytes were written, kept or not");
        Machine machine = Programs.machineWith(WRITE);
        for (int i = 1; i <= 70; i++) {
            machine.step(3000);
            Checks.same("written", machine.written(), 1000 * i);
        }
        Checks.same("the last", machine.text(69999), 69999 * 7 & 255);
        Checks.same("the first kept", machine.text(69744), 69744 * 7 & 255);
        Checks.refusesIndex("the one before it", () -> machine.text(69743));
        Checks.refusesIndex("the next", () -> machine.text(70000));
    }

    private static void anyByteIsWritten() {
        Checks.sentence("Out 1: the byte is WRITTEN, whichever it is");
        Machine machine = Programs.machineWith("D3 01 3C C3 00 01");
        machine.step(3 * 256);
        for (int i = 0; i < 256; i++) {
            Checks.same("text(" + i + ")", machine.text(i), i);
        }
    }

    private static void textIsWhatWasWritten() {
        Checks.sentence("Promises 9 and 10: byte by byte");
        Machine machine = Programs.machineWith(WRITE);
        for (int count = 1; count <= 100; count++) {
            machine.step(3);
            Checks.same("written", machine.written(), count);
            Checks.same("the last", machine.text(count - 1), (count - 1) * 7 & 255);
            Checks.same("the first", machine.text(0), 0);
        }
        for (int i = 0; i < 100; i++) {
            Checks.same("text " + i, machine.text(i), i * 7 & 255);
        }
    }

    private static void otherPortsDoNothing() {
        Checks.sentence("In others: 255; out others: nothing");
        for (int port = 0; port < 256; port++) {
            Machine machine = Programs.machineWith("DB " + Integer.toHexString(port));
            machine.put(6, 0xFF);
            machine.type(77);
            Checks.same("cycles of in " + port, machine.step(1), 10);
            int due = port == 0 ? 1 : port == 1 ? 77 : port == 6 ? 0 : 255;
            Checks.same("in " + port, machine.register(7), due);
            Checks.same("in leaves the flags", machine.register(6), 0xD7);
            Checks.same("input behind in " + port, machine.type(1), port == 1 ? 1 : 2);
            if (port == 0 || port > 6) {
                outDoesNothing(port);
            }
        }
    }

    private static void outDoesNothing(int port) {
        String program = "D3 " + Integer.toHexString(port);
        Machine machine = Programs.machineWith(program);
        machine.put(7, 1);
        Checks.same("cycles of out " + port, machine.step(1), 10);
        Machine idle = Programs.machineWith(program);
        idle.put(7, 1);
        idle.put(8, 0x102);
        Checks.same("out " + port, Programs.quickPicture(machine), Programs.quickPicture(idle));
    }
}
