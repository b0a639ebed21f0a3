import java.util.Map;
import java.util.TreeMap;

/**
 * Promise 12, every instruction: each row tells a code, what is put before it, its cycles and what
 * it changes; whatever a row does not name must stay as it was.
 */
public final class InstructionTest {
    private static final String[] NAMES = {"B", "C", "D", "E", "H", "L", "F", "A", "PC", "SP"};
    private static final String START = "B=11 C=22 D=33 E=44 H=05 L=66 F=02 A=77 PC=100 SP=800";

    /** Cycles by code; for conditions: when they do not hold. */
    private static final int[] CYCLES = {
        4, 10, 7, 5, 5, 5, 7, 4, 4, 10, 7, 5, 5, 5, 7, 4,
        4, 10, 7, 5, 5, 5, 7, 4, 4, 10, 7, 5, 5, 5, 7, 4,
        4, 10, 16, 5, 5, 5, 7, 4, 4, 10, 16, 5, 5, 5, 7, 4,
        4, 10, 13, 5, 10, 10, 10, 4, 4, 10, 13, 5, 5, 5, 7, 4,
        5, 5, 5, 5, 5, 5, 7, 5, 5, 5, 5, 5, 5, 5, 7, 5,
        5, 5, 5, 5, 5, 5, 7, 5, 5, 5, 5, 5, 5, 5, 7, 5,
        5, 5, 5, 5, 5, 5, 7, 5, 5, 5, 5, 5, 5, 5, 7, 5,
        7, 7, 7, 7, 7, 7, 7, 7, 5, 5, 5, 5, 5, 5, 7, 5,
        4, 4, 4, 4, 4, 4, 7, 4, 4, 4, 4, 4, 4, 4, 7, 4,
        4, 4, 4, 4, 4, 4, 7, 4, 4, 4, 4, 4, 4, 4, 7, 4,
        4, 4, 4, 4, 4, 4, 7, 4, 4, 4, 4, 4, 4, 4, 7, 4,
        4, 4, 4, 4, 4, 4, 7, 4, 4, 4, 4, 4, 4, 4, 7, 4,
        5, 10, 10, 10, 11, 11, 7, 11, 5, 10, 10, 10, 11, 17, 7, 11,
        5, 10, 10, 10, 11, 11, 7, 11, 5, 10, 10, 10, 11, 17, 7, 11,
        5, 10, 10, 18, 11, 11, 7, 11, 5, 5, 10, 4, 11, 17, 7, 11,
        5, 10, 10, 4, 11, 11, 7, 11, 5, 5, 10, 4, 11, 17, 7, 11,
    };

    public static void main(String[] args) {
        everyCodeTakesItsCycles();
        nothing();
        pairs();
        byAddress();
        oneMoreOneLess();
        immediate();
        turns();
        transfers();
        conditions();
        stack();
        jumps();
        exchanges();
        wraps();
        Checks.end();
    }

    private static void row(String code, String before, int cycles, String after) {
        DiskMachine machine = new DiskMachine();
        TreeMap<Integer, Integer> bytes = new TreeMap<>();
        int length = apply(machine, bytes, START + " " + before, code);
        int cell = machine.register(8);
        Map<String, Integer> due = new TreeMap<>();
        for (int k = 0; k < NAMES.length; k++) {
            due.put(NAMES[k], machine.register(k));
        }
        due.put("PC", cell + length & 0xFFFF);
        expect(due, bytes, after);
        String name = code + " after " + before;
        Checks.same(name + " cycles", machine.step(1), cycles);
        Checks.same(name + " cycles in all", machine.cycles(), cycles);
        for (int k = 0; k < NAMES.length; k++) {
            Checks.same(name + " " + NAMES[k], machine.register(k), due.get(NAMES[k]));
        }
        Checks.same(name + " memory", memory(machine), bytes.toString());
    }

    private static int apply(DiskMachine machine, Map<Integer, Integer> bytes, String text, String code) {
        int pc = 0;
        for (String word : text.trim().split("\\s+")) {
            String[] sides = word.split("=");
            int v = Integer.parseInt(sides[1], 16);
            if (sides[0].startsWith("[")) {
                setByte(bytes, address(sides[0]), v);
            } else {
                machine.put(number(sides[0]), v);
                pc = sides[0].equals("PC") ? v : pc;
            }
        }
        int[] program = Programs.bytes(code);
        for (int i = 0; i < program.length; i++) {
            setByte(bytes, pc + i & 4095, program[i]);
        }
        for (Map.Entry<Integer, Integer> entry : bytes.entrySet()) {
            machine.write(entry.getKey(), entry.getValue());
        }
        return program.length;
    }

    private static void expect(Map<String, Integer> due, Map<Integer, Integer> bytes, String after) {
        if (after.isEmpty()) {
            return;
        }
        for (String word : after.trim().split("\\s+")) {
            String[] sides = word.split("=");
            int v = Integer.parseInt(sides[1], 16);
            if (sides[0].startsWith("[")) {
                setByte(bytes, address(sides[0]), v);
            } else {
                number(sides[0]);
                due.put(sides[0], v);
            }
        }
    }

    private static void setByte(Map<Integer, Integer> bytes, int address, int v) {
        bytes.remove(address);
        if (v != 0) {
            bytes.put(address, v);
        }
    }

    private static int address(String text) {
        return Integer.parseInt(text.substring(1, text.length() - 1), 16);
    }

    private static int number(String name) {
        for (int k = 0; k < NAMES.length; k++) {
            if (NAMES[k].equals(name)) {
                return k;
            }
        }
        throw new IllegalArgumentException(name);
    }

    private static String memory(DiskMachine machine) {
        TreeMap<Integer, Integer> bytes = new TreeMap<>();
        for (int address = 0; address < 4096; address++) {
            setByte(bytes, address, machine.read(address));
        }
        return bytes.toString();
    }

    private static String hex(int v) {
        return Integer.toHexString(v);
    }

    private static void everyCodeTakesItsCycles() {
        for (int code = 0; code < 256; code++) {
            DiskMachine machine = Programs.machineWith(hex(code));
            boolean dueOnOne = (code >> 3 & 1) == 1;
            machine.put(6, dueOnOne ? 0 : 255);
            Checks.same("cycles of " + hex(code), machine.step(1), CYCLES[code]);
            boolean conditional = code >= 0xC0 && ((code & 7) == 0 || (code & 7) == 4);
            DiskMachine held = Programs.machineWith(hex(code));
            held.put(6, dueOnOne ? 255 : 0);
            int more = conditional ? 6 : 0;
            Checks.same("cycles of " + hex(code) + " if it holds", held.step(1), CYCLES[code] + more);
        }
    }

    private static void nothing() {
        for (int y = 0; y < 8; y++) {
            row(hex(8 * y), "F=FF", 4, "");
        }
    }

    private static void pairs() {
        row("01 34 12", "F=FF", 10, "B=12 C=34");
        row("11 34 12", "", 10, "D=12 E=34");
        row("21 34 12", "", 10, "H=12 L=34");
        row("31 34 12", "", 10, "SP=1234");
        row("09", "F=FF", 10, "H=16 L=88 F=D6");
        row("19", "F=2", 10, "H=38 L=AA");
        row("29", "F=3", 10, "H=0A L=CC F=2");
        row("39", "", 10, "H=0D L=66");
        row("09", "B=FA C=99", 10, "H=FF L=FF");
        row("09", "B=FA C=9A", 10, "H=0 L=0 F=3");
        row("29", "H=80 L=01 F=D6", 10, "H=0 L=2 F=D7");
        row("39", "SP=FFFF F=2", 10, "L=65 F=3");
        row("03", "C=FF F=FF", 5, "B=12 C=0");
        row("13", "", 5, "E=45");
        row("23", "H=FF L=FF", 5, "H=0 L=0");
        row("33", "SP=FFFF", 5, "SP=0");
        row("33", "", 5, "SP=801");
        row("0B", "C=0 F=FF", 5, "B=10 C=FF");
        row("1B", "", 5, "E=43");
        row("2B", "H=0 L=0", 5, "H=FF L=FF");
        row("3B", "SP=0", 5, "SP=FFFF");
    }

    private static void byAddress() {
        row("02", "B=2 F=FF", 7, "[222]=77");
        row("12", "D=F3", 7, "[344]=77");
        row("0A", "B=2 [222]=9C F=FF", 7, "A=9C");
        row("1A", "D=F3 [344]=9C", 7, "A=9C");
        row("22 34 12", "F=FF", 16, "[234]=66 [235]=5");
        row("22 FF 0F", "", 16, "[FFF]=66 [0]=5");
        row("2A 34 12", "[234]=9C [235]=7D F=FF", 16, "H=7D L=9C");
        row("2A FF FF", "[FFF]=9C [0]=7D", 16, "H=7D L=9C");
        row("32 34 12", "F=FF", 13, "[234]=77");
        row("3A 34 12", "[234]=9C F=FF", 13, "A=9C");
    }

    private static void oneMoreOneLess() {
        for (int k = 0; k < 8; k++) {
            for (int v = 0; v < 256; v++) {
                for (int flags : new int[] {0x02, 0xD7}) {
                    changeByOne(k, v, flags, 1);
                    changeByOne(k, v, flags, -1);
                }
            }
        }
    }

    private static void changeByOne(int k, int v, int flags, int by) {
        DiskMachine machine = Programs.machineWith(hex(8 * k + (by > 0 ? 4 : 5)));
        machine.put(4, 3);
        int place = 0x300;
        if (k == 6) {
            machine.write(place, v);
        } else {
            machine.put(k, v);
        }
        machine.put(6, flags);
        int due = v + by & 255;
        boolean half = by > 0 ? v % 16 == 15 : v % 16 != 0;
        String name = by + " on " + k + " of " + v;
        Checks.same(name + " cycles", machine.step(1), k == 6 ? 10 : 5);
        Checks.same(name, k == 6 ? machine.read(place) : machine.register(k), due);
        Checks.same(name + " flags", machine.register(6),
            ArithmeticTest.logic(due) | (half ? 16 : 0) | flags & 1);
    }

    private static void immediate() {
        for (int k = 0; k < 8; k++) {
            String place = k == 6 ? "[566]" : NAMES[k];
            row(hex(8 * k + 6) + " 9C", "F=FF", k == 6 ? 10 : 7, place + "=9C");
            row(hex(8 * k + 6) + " 0", "F=0 [566]=5", k == 6 ? 10 : 7, place + "=0");
        }
    }

    private static void turns() {
        row("07", "A=81 F=D6", 4, "A=3 F=D7");
        row("07", "A=7E F=D7", 4, "A=FC F=D6");
        row("0F", "A=81 F=D6", 4, "A=C0 F=D7");
        row("0F", "A=7E F=D7", 4, "A=3F F=D6");
        row("17", "A=81 F=D6", 4, "A=2 F=D7");
        row("17", "A=7E F=D7", 4, "A=FD F=D6");
        row("1F", "A=81 F=D6", 4, "A=40 F=D7");
        row("1F", "A=7E F=D7", 4, "A=BF F=D6");
        row("2F", "A=A5 F=D7", 4, "A=5A");
        row("2F", "A=0 F=2", 4, "A=FF");
        row("37", "F=D6", 4, "F=D7");
        row("37", "F=D7", 4, "F=D7");
        row("3F", "F=D6", 4, "F=D7");
        row("3F", "F=3", 4, "F=2");
    }

    private static void transfers() {
        int[] start = {0x11, 0x22, 0x33, 0x44, 0x05, 0x66, 0x9C, 0x77};
        for (int y = 0; y < 8; y++) {
            for (int z = 0; z < 8; z++) {
                if (y == 6 && z == 6) {
                    continue;
                }
                String place = y == 6 ? "[566]" : NAMES[y];
                row(hex(0x40 + 8 * y + z), "[566]=9C F=FF", y == 6 || z == 6 ? 7 : 5,
                    place + "=" + hex(start[z]));
            }
        }
        row("76", "F=FF [566]=9C", 7, "");
        row("77", "H=F5", 7, "[566]=77");
    }

    /** Each condition, by the flags that make it hold and by all others that must not matter. */
    private static void conditions() {
        int[] bits = {0x40, 0x40, 0x01, 0x01, 0x04, 0x04, 0x80, 0x80};
        for (int y = 0; y < 8; y++) {
            for (int flags : new int[] {0x02, 0xD7, bits[y] | 2, 0xD7 & ~bits[y]}) {
                boolean holds = (flags & bits[y]) != 0 == (y % 2 == 1);
                String before = "F=" + hex(flags) + " SP=900 [900]=CD [901]=AB";
                row(hex(0xC0 + 8 * y), before, holds ? 11 : 5, holds ? "PC=ABCD SP=902" : "");
                row(hex(0xC2 + 8 * y) + " 34 12", before, 10, holds ? "PC=1234" : "");
                row(hex(0xC4 + 8 * y) + " 34 12", before, holds ? 17 : 11,
                    holds ? "PC=1234 SP=8FE [8FE]=3 [8FF]=1" : "");
            }
        }
    }

    private static void stack() {
        row("C5", "F=FF", 11, "SP=7FE [7FE]=22 [7FF]=11");
        row("D5", "", 11, "SP=7FE [7FE]=44 [7FF]=33");
        row("E5", "", 11, "SP=7FE [7FE]=66 [7FF]=5");
        row("F5", "F=FF", 11, "SP=7FE [7FE]=D7 [7FF]=77");
        row("F5", "F=0", 11, "SP=7FE [7FE]=2 [7FF]=77");
        row("C1", "[800]=CD [801]=AB F=FF", 10, "SP=802 B=AB C=CD");
        row("D1", "[800]=CD [801]=AB", 10, "SP=802 D=AB E=CD");
        row("E1", "[800]=CD [801]=AB", 10, "SP=802 H=AB L=CD");
        row("F1", "[800]=FF [801]=AB", 10, "SP=802 A=AB F=D7");
        row("F1", "[800]=0 [801]=AB F=FF", 10, "SP=802 A=AB F=2");
        row("C9", "[800]=CD [801]=AB", 10, "SP=802 PC=ABCD");
        row("D9", "[800]=CD [801]=AB", 10, "SP=802 PC=ABCD");
        for (int y = 1; y < 8; y += 2) {
            row(hex(0xC5 + 8 * y) + " CD AB", "", 17, "SP=7FE [7FE]=3 [7FF]=1 PC=ABCD");
        }
        for (int y = 0; y < 8; y++) {
            row(hex(0xC7 + 8 * y), "F=FF", 11, "SP=7FE [7FE]=1 [7FF]=1 PC=" + hex(8 * y));
        }
        row("F9", "", 5, "SP=566");
    }

    private static void jumps() {
        row("C3 CD AB", "F=FF", 10, "PC=ABCD");
        row("CB CD AB", "", 10, "PC=ABCD");
        row("E9", "H=AB", 5, "PC=AB66");
    }

    private static void exchanges() {
        row("E3", "[800]=CD [801]=AB F=FF", 18, "H=AB L=CD [800]=66 [801]=5");
        row("EB", "F=FF", 4, "D=5 E=66 H=33 L=44");
        row("F3", "F=FF", 4, "");
        row("FB", "F=FF", 4, "");
        row("D3 C8", "F=FF", 10, "");
        row("DB C8", "F=FF", 10, "A=FF");
    }

    /** Words beyond 16 bits are cut; addresses count modulo 4096. */
    private static void wraps() {
        row("00", "PC=FFFF", 4, "PC=0");
        row("C3 CD AB", "PC=FFFE", 10, "PC=ABCD");
        row("C3 CD AB", "PC=1FFF", 10, "PC=ABCD");
        row("3E 5", "PC=FFFF", 7, "PC=1 A=5");
        row("CD CD AB", "PC=FFFD", 17, "PC=ABCD SP=7FE [7FE]=0 [7FF]=0");
        row("C5", "SP=0", 11, "SP=FFFE [FFE]=22 [FFF]=11");
        row("C5", "SP=1", 11, "SP=FFFF [FFF]=22 [0]=11");
        row("C1", "SP=FFFF [FFF]=CD [0]=AB", 10, "SP=1 B=AB C=CD");
        row("C1", "SP=FFFE [FFE]=CD [FFF]=AB", 10, "SP=0 B=AB C=CD");
        row("E3", "SP=1FFF [FFF]=CD [0]=AB", 18, "H=AB L=CD [FFF]=66 [0]=5");
        // The word behind the code is read before the stack, which lies over it, is written.
        row("CD CD AB", "SP=103", 17, "PC=ABCD SP=101 [101]=3 [102]=1");
        row("36 9C", "H=1 L=1", 10, "[101]=9C");
        row("34", "H=1 L=0", 10, "[100]=35 F=06");
    }
}
