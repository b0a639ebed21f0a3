/**
 * A small computer: a processor of eight bits, a console, and a controller that moves sectors of a
 * disk to and from memory while the processor goes on.
 */
public final class DiskMachine {
    public static final int NONE = -1;

    private static final int BYTE = 0xFF;
    private static final int WORD = 0xFFFF;
    private static final int LONGEST_STEP = 3000;

    private final Store memory = new Store();
    private final Store disk = new Store();
    private final Console console = new Console();
    private final Controller controller = new Controller(memory, disk);
    private final Processor processor = new Processor(memory, console, controller);

    public DiskMachine() {
    }

    public int write(int address, int v) throws IllegalArgumentException {
        if (!isPlace(address) || !isByte(v)) {
            throw new IllegalArgumentException();
        }
        return memory.exchange(address, v);
    }

    public int read(int address) throws IllegalArgumentException {
        if (!isPlace(address)) {
            throw new IllegalArgumentException();
        }
        return memory.byteAt(address);
    }

    public int writeDisk(int address, int v) throws IllegalArgumentException {
        if (!isPlace(address) || !isByte(v)) {
            throw new IllegalArgumentException();
        }
        return disk.exchange(address, v);
    }

    public int readDisk(int address) throws IllegalArgumentException {
        if (!isPlace(address)) {
            throw new IllegalArgumentException();
        }
        return disk.byteAt(address);
    }

    public int register(int k) throws IndexOutOfBoundsException {
        if (!Processor.shows(k)) {
            throw new IndexOutOfBoundsException();
        }
        return processor.shown(k);
    }

    public void put(int k, int v) throws IndexOutOfBoundsException {
        if (!Processor.shows(k)) {
            throw new IndexOutOfBoundsException();
        }
        processor.change(k, v);
    }

    public int type(int b) throws IllegalArgumentException {
        if (!isByte(b)) {
            throw new IllegalArgumentException();
        }
        return console.takeKey(b);
    }

    public int written() {
        return console.writtenCount();
    }

    public int text(int i) throws IndexOutOfBoundsException {
        if (!console.keeps(i)) {
            throw new IndexOutOfBoundsException();
        }
        return console.writtenByte(i);
    }

    public void want(int n) throws IllegalArgumentException {
        if (n < 0 || n > 7) {
            throw new IllegalArgumentException();
        }
        processor.callWith(n);
    }

    public int step(int n) throws IllegalArgumentException {
        if (n < 0 || n > LONGEST_STEP) {
            throw new IllegalArgumentException();
        }
        int took = 0;
        for (int i = 0; i < n; i++) {
            took += processor.turn();
        }
        return took;
    }

    public long cycles() {
        return processor.cyclesDone();
    }

    public int told(int what) throws IllegalArgumentException {
        switch (what) {
            case 0:
                return processor.isHalted() ? 1 : 0;
            case 1:
                return processor.hasInterruptsOn() ? 1 : 0;
            case 2:
                return processor.wantedInterrupt();
            case 3:
                return controller.stateByte();
            case 4:
                return controller.movedCount();
            case 5:
                return controller.addressWord();
            default:
                throw new IllegalArgumentException();
        }
    }

    public int sum() {
        return memory.weighedTotal();
    }

    private static boolean isPlace(int address) {
        return address >= 0 && address < Store.SIZE;
    }

    private static boolean isByte(int v) {
        return v >= 0 && v <= BYTE;
    }

    /** Bytes by address: the memory and the disk are one each. */
    private static final class Store {
        static final int SIZE = 4096;
        private static final int LAST = SIZE - 1;

        private final int[] bytes = new int[SIZE];

        int byteAt(int address) {
            return bytes[address & LAST];
        }

        void setByte(int address, int v) {
            bytes[address & LAST] = v & BYTE;
        }

        int exchange(int address, int v) {
            int old = byteAt(address);
            setByte(address, v);
            return old;
        }

        int wordAt(int address) {
            return bytes[address & LAST] | bytes[address + 1 & LAST] << 8;
        }

        void setWord(int address, int word) {
            bytes[address & LAST] = word & BYTE;
            bytes[address + 1 & LAST] = word >> 8 & BYTE;
        }

        int weighedTotal() {
            int total = 0;
            for (int i = 0; i < SIZE; i++) {
                total += bytes[i] * (i + 1);
            }
            return total;
        }
    }

    /** What is typed waits here for the processor; what the processor writes is kept here. */
    private static final class Console {
        private static final int INPUT_ROOM = 64;
        private static final int TEXT_ROOM = 256;
        private static final int TEXT_LAST = TEXT_ROOM - 1;

        private final int[] input = new int[INPUT_ROOM];
        private int firstInput;
        private int inputCount;
        private final int[] output = new int[TEXT_ROOM];
        private int outputCount;

        int takeKey(int b) {
            if (inputCount >= INPUT_ROOM) {
                return NONE;
            }
            input[(firstInput + inputCount) % INPUT_ROOM] = b;
            inputCount++;
            return inputCount;
        }

        boolean hasInput() {
            return inputCount > 0;
        }

        int nextInput() {
            if (inputCount == 0) {
                return 0;
            }
            int b = input[firstInput];
            firstInput = (firstInput + 1) % INPUT_ROOM;
            inputCount--;
            return b;
        }

        void append(int b) {
            output[outputCount & TEXT_LAST] = b;
            outputCount++;
        }

        int writtenCount() {
            return outputCount;
        }

        boolean keeps(int i) {
            return i >= 0 && i < outputCount && i >= outputCount - TEXT_ROOM;
        }

        int writtenByte(int i) {
            return output[i & TEXT_LAST];
        }
    }

    /** Moves one sector at a time between disk and memory, a byte for each 12 cycles that pass. */
    private static final class Controller {
        private static final int SECTOR_SIZE = 64;
        private static final int SECTORS = 64;
        private static final int CYCLES_A_BYTE = 12;
        private static final int BUSY = 1;
        private static final int DONE = 2;
        private static final int FAULT = 4;
        private static final int TO_MEMORY = 1;
        private static final int TO_DISK = 2;
        private static final int CALLS = 8;

        private final Store memory;
        private final Store disk;
        private int sector;
        private int address;
        private int call;
        private int state;
        private int diskStart;
        private boolean toDisk;
        private int moved;
        private int cyclesLeftOver;
        private boolean commandJustCame;

        Controller(Store memory, Store disk) {
            this.memory = memory;
            this.disk = disk;
        }

        void setSector(int b) {
            sector = b;
        }

        void setLowAddress(int b) {
            address = address & 0xFF00 | b;
        }

        void setHighAddress(int b) {
            address = address & BYTE | b << 8;
        }

        void setCall(int b) {
            call = b;
        }

        void command(int b) {
            boolean known = b == TO_MEMORY || b == TO_DISK;
            if (isBusy() || !known || sector >= SECTORS) {
                state |= FAULT;
                return;
            }
            state |= BUSY;
            // Kept apart from the sector, which the program may change while the bytes move.
            diskStart = sector * SECTOR_SIZE;
            toDisk = b == TO_DISK;
            moved = 0;
            cyclesLeftOver = 0;
            commandJustCame = true;
        }

        int takeState() {
            int shown = state;
            state &= BUSY;
            return shown;
        }

        /** Answers the interrupt that the controller calls with now, or NONE. */
        int letPass(int cycles) {
            if (!isBusy()) {
                return NONE;
            }
            if (commandJustCame) {
                // The cycles of the command's own instruction move nothing.
                commandJustCame = false;
                return NONE;
            }
            int passed = cyclesLeftOver + cycles;
            cyclesLeftOver = passed % CYCLES_A_BYTE;
            for (int due = passed / CYCLES_A_BYTE; due > 0 && moved < SECTOR_SIZE; due--) {
                moveByte();
            }
            return moved < SECTOR_SIZE ? NONE : finish();
        }

        private void moveByte() {
            int place = diskStart + moved;
            if (toDisk) {
                disk.setByte(place, memory.byteAt(address));
            } else {
                memory.setByte(address, disk.byteAt(place));
            }
            address = address + 1 & WORD;
            moved++;
        }

        private int finish() {
            state = state & ~BUSY | DONE;
            return (call & CALLS) != 0 ? call & 7 : NONE;
        }

        private boolean isBusy() {
            return (state & BUSY) != 0;
        }

        int stateByte() {
            return state;
        }

        int movedCount() {
            return moved;
        }

        int addressWord() {
            return address;
        }
    }

    /** The five flags, and the byte that holds them on the stack. */
    private static final class Flags {
        private static final int SIGN_BIT = 0x80;
        private static final int ZERO_BIT = 0x40;
        private static final int HALF_BIT = 0x10;
        private static final int PARITY_BIT = 0x04;
        private static final int ALWAYS_BIT = 0x02;
        private static final int CARRY_BIT = 0x01;

        private boolean sign;
        private boolean zero;
        private boolean half;
        private boolean parity;
        private boolean carry;

        int packed() {
            return (sign ? SIGN_BIT : 0)
                | (zero ? ZERO_BIT : 0)
                | (half ? HALF_BIT : 0)
                | (parity ? PARITY_BIT : 0)
                | ALWAYS_BIT
                | (carry ? CARRY_BIT : 0);
        }

        void unpack(int b) {
            sign = (b & SIGN_BIT) != 0;
            zero = (b & ZERO_BIT) != 0;
            half = (b & HALF_BIT) != 0;
            parity = (b & PARITY_BIT) != 0;
            carry = (b & CARRY_BIT) != 0;
        }

        void setLogic(int b) {
            sign = (b & 0x80) != 0;
            zero = b == 0;
            parity = (Integer.bitCount(b) & 1) == 0;
        }

        void setHalf(boolean on) {
            half = on;
        }

        void setCarry(boolean on) {
            carry = on;
        }

        boolean hasHalf() {
            return half;
        }

        boolean hasCarry() {
            return carry;
        }

        int carryBit() {
            return carry ? 1 : 0;
        }

        boolean holds(int condition) {
            boolean due = (condition & 1) != 0;
            switch (condition >> 1) {
                case 0:
                    return zero == due;
                case 1:
                    return carry == due;
                case 2:
                    return parity == due;
                default:
                    return sign == due;
            }
        }
    }

    /** What an instruction does to the byte in A and to the flags, without memory or PC. */
    private static final class Arithmetic {
        private final Flags flags;

        Arithmetic(Flags flags) {
            this.flags = flags;
        }

        /** Answers what A becomes when operation y joins it with another byte. */
        int combine(int y, int a, int b) {
            switch (y) {
                case 0:
                    return added(a, b, 0);
                case 1:
                    return added(a, b, flags.carryBit());
                case 2:
                    return subtracted(a, b, 0);
                case 3:
                    return subtracted(a, b, flags.carryBit());
                case 4:
                    return bitwise(a & b, ((a | b) & 8) != 0);
                case 5:
                    return bitwise(a ^ b, false);
                case 6:
                    return bitwise(a | b, false);
                default:
                    subtracted(a, b, 0);
                    return a;
            }
        }

        private int added(int a, int b, int carry) {
            int total = a + b + carry;
            flags.setCarry(total > BYTE);
            flags.setHalf((a & 15) + (b & 15) + carry > 15);
            flags.setLogic(total & BYTE);
            return total & BYTE;
        }

        private int subtracted(int a, int b, int borrow) {
            int rest = a - b - borrow;
            flags.setCarry(rest < 0);
            flags.setHalf((a & 15) - (b & 15) - borrow >= 0);
            flags.setLogic(rest & BYTE);
            return rest & BYTE;
        }

        private int bitwise(int b, boolean half) {
            flags.setCarry(false);
            flags.setHalf(half);
            flags.setLogic(b);
            return b;
        }

        int oneMore(int b) {
            int more = b + 1 & BYTE;
            flags.setHalf((more & 15) == 0);
            flags.setLogic(more);
            return more;
        }

        int oneLess(int b) {
            int less = b - 1 & BYTE;
            flags.setHalf((less & 15) != 15);
            flags.setLogic(less);
            return less;
        }

        /** Answers what A becomes by the instruction xx 0, z 7 with this y. */
        int adjust(int y, int a) {
            switch (y) {
                case 0:
                    return turnLeft(a, a >> 7);
                case 1:
                    return turnRight(a, a & 1);
                case 2:
                    return turnLeft(a, flags.carryBit());
                case 3:
                    return turnRight(a, flags.carryBit());
                case 4:
                    return toDecimal(a);
                case 5:
                    return a ^ BYTE;
                case 6:
                    flags.setCarry(true);
                    return a;
                default:
                    flags.setCarry(!flags.hasCarry());
                    return a;
            }
        }

        private int turnLeft(int a, int lowest) {
            flags.setCarry((a & 0x80) != 0);
            return a << 1 & BYTE | lowest;
        }

        private int turnRight(int a, int highest) {
            flags.setCarry((a & 1) != 0);
            return a >> 1 | highest << 7;
        }

        private int toDecimal(int a) {
            int low = a & 15;
            int high = a >> 4;
            boolean lowPart = low > 9 || flags.hasHalf();
            boolean highPart = high > 9 || flags.hasCarry() || high == 9 && low > 9;
            int result = a + (lowPart ? 6 : 0) + (highPart ? 0x60 : 0) & BYTE;
            flags.setHalf(lowPart && low + 6 > 15);
            flags.setCarry(highPart);
            flags.setLogic(result);
            return result;
        }
    }

    /** The registers, the interrupts, and every instruction; a method for one answers its cycles. */
    private static final class Processor {
        private static final int M = 6;
        private static final int A = 7;
        private static final int SHOWN_FLAGS = 6;
        private static final int SHOWN_PC = 8;
        private static final int SHOWN_SP = 9;
        private static final int PAIR_DE = 1;
        private static final int PAIR_HL = 2;
        private static final int PAIR_SP = 3;
        private static final int INTERRUPT_CYCLES = 11;
        private static final int HALTED_CYCLES = 4;

        private final Store memory;
        private final Console console;
        private final Controller controller;
        private final Flags flags = new Flags();
        private final Arithmetic arithmetic = new Arithmetic(flags);
        // Place 6 stays unused: M lives in memory.
        private final int[] registers = new int[8];
        private int pc;
        private int sp;
        private boolean halted;
        private boolean interruptsOn;
        private boolean justSetOn;
        private int wanted = NONE;
        private long cyclesDone;

        Processor(Store memory, Console console, Controller controller) {
            this.memory = memory;
            this.console = console;
            this.controller = controller;
        }

        static boolean shows(int k) {
            return k >= 0 && k <= SHOWN_SP;
        }

        int shown(int k) {
            switch (k) {
                case SHOWN_FLAGS:
                    return flags.packed();
                case SHOWN_PC:
                    return pc;
                case SHOWN_SP:
                    return sp;
                default:
                    return registers[k & 7];
            }
        }

        void change(int k, int v) {
            switch (k) {
                case SHOWN_FLAGS:
                    flags.unpack(v);
                    break;
                case SHOWN_PC:
                    pc = v & WORD;
                    break;
                case SHOWN_SP:
                    sp = v & WORD;
                    break;
                default:
                    registers[k & 7] = v & BYTE;
                    break;
            }
        }

        void callWith(int n) {
            wanted = n;
        }

        boolean isHalted() {
            return halted;
        }

        boolean hasInterruptsOn() {
            return interruptsOn;
        }

        int wantedInterrupt() {
            return wanted;
        }

        long cyclesDone() {
            return cyclesDone;
        }

        /** One instruction, one interrupt, or one wait of a halted processor. */
        int turn() {
            int took;
            if (wanted != NONE && interruptsOn && !justSetOn) {
                took = answerInterrupt();
            } else if (halted) {
                took = HALTED_CYCLES;
            } else {
                took = instruction();
            }
            cyclesDone += took;
            int called = controller.letPass(took);
            if (called != NONE) {
                wanted = called;
            }
            return took;
        }

        private int answerInterrupt() {
            int n = wanted;
            wanted = NONE;
            interruptsOn = false;
            halted = false;
            push(pc);
            pc = 8 * n;
            return INTERRUPT_CYCLES;
        }

        private int instruction() {
            // Cleared first, so that the same instruction again can hold interrupts off once more.
            justSetOn = false;
            int code = nextByte();
            int y = code >> 3 & 7;
            int z = code & 7;
            switch (code >> 6) {
                case 0:
                    return firstQuarter(y, z);
                case 1:
                    return transfer(y, z);
                case 2:
                    registers[A] = arithmetic.combine(y, registers[A], value(z));
                    return z == M ? 7 : 4;
                default:
                    return lastQuarter(y, z);
            }
        }

        private int firstQuarter(int y, int z) {
            switch (z) {
                case 0:
                    return 4;
                case 1:
                    return setOrAddPair(y);
                case 2:
                    return moveByAddress(y);
                case 3:
                    return stepPair(y);
                case 4:
                    setValue(y, arithmetic.oneMore(value(y)));
                    return y == M ? 10 : 5;
                case 5:
                    setValue(y, arithmetic.oneLess(value(y)));
                    return y == M ? 10 : 5;
                case 6:
                    setValue(y, nextByte());
                    return y == M ? 10 : 7;
                default:
                    registers[A] = arithmetic.adjust(y, registers[A]);
                    return 4;
            }
        }

        private int setOrAddPair(int y) {
            int p = y >> 1;
            if ((y & 1) == 0) {
                setPair(p, nextWord());
            } else {
                int total = pair(PAIR_HL) + pair(p);
                flags.setCarry(total > WORD);
                setPair(PAIR_HL, total);
            }
            return 10;
        }

        private int stepPair(int y) {
            int p = y >> 1;
            setPair(p, (y & 1) == 0 ? pair(p) + 1 : pair(p) - 1);
            return 5;
        }

        private int moveByAddress(int y) {
            switch (y) {
                case 0:
                case 2:
                    memory.setByte(pair(y >> 1), registers[A]);
                    return 7;
                case 1:
                case 3:
                    registers[A] = memory.byteAt(pair(y >> 1));
                    return 7;
                case 4:
                    memory.setWord(nextWord(), pair(PAIR_HL));
                    return 16;
                case 5:
                    setPair(PAIR_HL, memory.wordAt(nextWord()));
                    return 16;
                case 6:
                    memory.setByte(nextWord(), registers[A]);
                    return 13;
                default:
                    registers[A] = memory.byteAt(nextWord());
                    return 13;
            }
        }

        private int transfer(int y, int z) {
            if (y == M && z == M) {
                halted = true;
                return 7;
            }
            setValue(y, value(z));
            return y == M || z == M ? 7 : 5;
        }

        private int lastQuarter(int y, int z) {
            switch (z) {
                case 0:
                    return returnIf(y);
                case 1:
                    return popOrReturn(y);
                case 2:
                    return jumpIf(flags.holds(y));
                case 3:
                    return y < 2 ? jumpIf(true) : portOrExchange(y);
                case 4:
                    return callIf(flags.holds(y));
                case 5:
                    return (y & 1) == 0 ? pushPair(y) : callIf(true);
                case 6:
                    registers[A] = arithmetic.combine(y, registers[A], nextByte());
                    return 7;
                default:
                    push(pc);
                    pc = 8 * y;
                    return 11;
            }
        }

        private int returnIf(int condition) {
            if (!flags.holds(condition)) {
                return 5;
            }
            pc = pop();
            return 11;
        }

        private int popOrReturn(int y) {
            switch (y) {
                case 1:
                case 3:
                    pc = pop();
                    return 10;
                case 5:
                    pc = pair(PAIR_HL);
                    return 5;
                case 6:
                    return popAccumulator();
                case 7:
                    sp = pair(PAIR_HL);
                    return 5;
                default:
                    setPair(y >> 1, pop());
                    return 10;
            }
        }

        private int popAccumulator() {
            int word = pop();
            registers[A] = word >> 8;
            flags.unpack(word);
            return 10;
        }

        private int jumpIf(boolean holds) {
            int target = nextWord();
            if (holds) {
                pc = target;
            }
            return 10;
        }

        private int callIf(boolean holds) {
            int target = nextWord();
            if (!holds) {
                return 11;
            }
            push(pc);
            pc = target;
            return 17;
        }

        private int pushPair(int y) {
            push(y == 6 ? registers[A] << 8 | flags.packed() : pair(y >> 1));
            return 11;
        }

        private int portOrExchange(int y) {
            switch (y) {
                case 2:
                    sendToPort(nextByte(), registers[A]);
                    return 10;
                case 3:
                    registers[A] = takeFromPort(nextByte());
                    return 10;
                case 4:
                    return swapWithStack();
                case 5:
                    return swapPairs();
                case 6:
                    interruptsOn = false;
                    return 4;
                default:
                    interruptsOn = true;
                    justSetOn = true;
                    return 4;
            }
        }

        private int swapWithStack() {
            int word = memory.wordAt(sp);
            memory.setWord(sp, pair(PAIR_HL));
            setPair(PAIR_HL, word);
            return 18;
        }

        private int swapPairs() {
            int word = pair(PAIR_DE);
            setPair(PAIR_DE, pair(PAIR_HL));
            setPair(PAIR_HL, word);
            return 4;
        }

        private void sendToPort(int port, int b) {
            switch (port) {
                case 1:
                    console.append(b);
                    break;
                case 2:
                    controller.setSector(b);
                    break;
                case 3:
                    controller.setLowAddress(b);
                    break;
                case 4:
                    controller.setHighAddress(b);
                    break;
                case 5:
                    controller.setCall(b);
                    break;
                case 6:
                    controller.command(b);
                    break;
                default:
                    break;
            }
        }

        private int takeFromPort(int port) {
            switch (port) {
                case 0:
                    return console.hasInput() ? 1 : 0;
                case 1:
                    return console.nextInput();
                case 6:
                    return controller.takeState();
                default:
                    return 255;
            }
        }

        private int value(int k) {
            return k == M ? memory.byteAt(pair(PAIR_HL)) : registers[k];
        }

        private void setValue(int k, int b) {
            if (k == M) {
                memory.setByte(pair(PAIR_HL), b);
            } else {
                registers[k] = b;
            }
        }

        private int pair(int p) {
            return p == PAIR_SP ? sp : registers[2 * p] << 8 | registers[2 * p + 1];
        }

        private void setPair(int p, int word) {
            if (p == PAIR_SP) {
                sp = word & WORD;
            } else {
                registers[2 * p] = word >> 8 & BYTE;
                registers[2 * p + 1] = word & BYTE;
            }
        }

        private void push(int word) {
            sp = sp - 2 & WORD;
            memory.setWord(sp, word);
        }

        private int pop() {
            int word = memory.wordAt(sp);
            sp = sp + 2 & WORD;
            return word;
        }

        private int nextByte() {
            int b = memory.byteAt(pc);
            pc = pc + 1 & WORD;
            return b;
        }

        private int nextWord() {
            int word = memory.wordAt(pc);
            pc = pc + 2 & WORD;
            return word;
        }
    }
}
