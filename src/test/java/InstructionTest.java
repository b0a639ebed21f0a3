/** Promise 12, every instruction: what it changes, what it leaves, and its cycles. */
public final class InstructionTest {
    /** Cycles by code; for conditions: when they do not hold. */
    private static final int[] CYCLES = {
        4, 10, 7, 5, 5, 5, 7, 4, 4, 10, 7, 5, 5, 5, 7, 4,
        4, 10, 7, 5, 5, 5, 7, 4, 4, 10, 7, 5, 5, 5, 7, 4,
        4, 10, 16, 5, 5, 5, 7, 4, 4, 10, 16, 5, 5, 5, 7, 4,
        4, 10, 13, 5, 10, 10, 10, 4, 4, 10, 13, 5, 5, 5, 7, 4,
        5, 5, 5, 5, 5, 5, 7, 5, 5, 5, 5, 5, 5, 5, 7, 5,
        5, 5, 5, 5, 5, 5, 7, 5, 5, 5, 5, 5, 5, 5, 7, 5,
        5, 5, 5, 5, 5, 5, 7, 5, 5, 5, 5, 5, 5, 5, 7, 5,
        7, 7, 7, 7, 7, 7, 7, 7, 5, 5, 5, 5, 5, 5, 7, 5,
        4, 4, 4, 4, 4, 4, 7, 4, 4, 4, 4, 4, 4, 4, 7, 4,
        4, 4, 4, 4, 4, 4, 7, 4, 4, 4, 4, 4, 4, 4, 7, 4,
        4, 4, 4, 4, 4, 4, 7, 4, 4, 4, 4, 4, 4, 4, 7, 4,
        4, 4, 4, 4, 4, 4, 7, 4, 4, 4, 4, 4, 4, 4, 7, 4,
        5, 10, 10, 10, 11, 11, 7, 11, 5, 10, 10, 10, 11, 17, 7, 11,
        5, 10, 10, 10, 11, 11, 7, 11, 5, 10, 10, 10, 11, 17, 7, 11,
        5, 10, 10, 18, 11, 11, 7, 11, 5, 5, 10, 4, 11, 17, 7, 11,
        5, 10, 10, 4, 11, 11, 7, 11, 5, 5, 10, 4, 11, 17, 7, 11,
    };

    public static void main(String[] args) {
        everyCodeTakesItsCycles();
        nothing();
        pairs();
        byAddress();
        oneMoreOneLess();
        immediate();
        turns();
        transfers();
        conditions();
        stack();
        jumps();
        exchanges();
        codesAreReadFirst();
        Checks.end();
    }

    private static void everyCodeTakesItsCycles() {
        for (int code = 0; code < 256; code++) {
            Machine machine = Programs.machineWith(Programs.hex(code));
            boolean dueOnOne = (code >> 3 & 1) == 1;
            machine.put(6, dueOnOne ? 0 : 255);
            Checks.same("cycles of " + Programs.hex(code), machine.step(1), CYCLES[code]);
            boolean conditional = code >= 0xC0 && ((code & 7) == 0 || (code & 7) == 4);
            Machine held = Programs.machineWith(Programs.hex(code));
            held.put(6, dueOnOne ? 255 : 0);
            int more = conditional ? 6 : 0;
            Checks.same("cycles of " + Programs.hex(code) + " if it holds", held.step(1),
                CYCLES[code] + more);
        }
    }

    private static void nothing() {
        for (int y = 0; y < 8; y++) {
            Rows.row(Programs.hex(8 * y), "F=FF", 4, "");
        }
    }

    private static void pairs() {
        Rows.row("01 34 12", "F=FF", 10, "B=12 C=34");
        Rows.row("11 34 12", "", 10, "D=12 E=34");
        Rows.row("21 34 12", "", 10, "H=12 L=34");
        Rows.row("31 34 12", "", 10, "SP=1234");
        Rows.row("09", "F=FF", 10, "H=16 L=88 F=D6");
        Rows.row("19", "F=2", 10, "H=38 L=AA");
        Rows.row("29", "F=3", 10, "H=0A L=CC F=2");
        Rows.row("39", "", 10, "H=0D L=66");
        Rows.row("09", "B=FA C=99", 10, "H=FF L=FF");
        Rows.row("09", "B=FA C=9A", 10, "H=0 L=0 F=3");
        Rows.row("29", "H=80 L=01 F=D6", 10, "H=0 L=2 F=D7");
        Rows.row("39", "SP=FFFF F=2", 10, "L=65 F=3");
        Rows.row("03", "C=FF F=FF", 5, "B=12 C=0");
        Rows.row("13", "", 5, "E=45");
        Rows.row("23", "H=FF L=FF", 5, "H=0 L=0");
        Rows.row("33", "SP=FFFF", 5, "SP=0");
        Rows.row("33", "", 5, "SP=801");
        Rows.row("0B", "C=0 F=FF", 5, "B=10 C=FF");
        Rows.row("1B", "", 5, "E=43");
        Rows.row("2B", "H=0 L=0", 5, "H=FF L=FF");
        Rows.row("3B", "SP=0", 5, "SP=FFFF");
    }

    private static void byAddress() {
        Rows.row("02", "B=2 F=FF", 7, "[222]=77");
        Rows.row("12", "D=F3", 7, "[344]=77");
        Rows.row("0A", "B=2 [222]=9C F=FF", 7, "A=9C");
        Rows.row("1A", "D=F3 [344]=9C", 7, "A=9C");
        Rows.row("22 34 12", "F=FF", 16, "[234]=66 [235]=5");
        Rows.row("22 FF 0F", "", 16, "[FFF]=66 [0]=5");
        Rows.row("2A 34 12", "[234]=9C [235]=7D F=FF", 16, "H=7D L=9C");
        Rows.row("2A FF FF", "[FFF]=9C [0]=7D", 16, "H=7D L=9C");
        Rows.row("32 34 12", "F=FF", 13, "[234]=77");
        Rows.row("3A 34 12", "[234]=9C F=FF", 13, "A=9C");
    }

    private static void oneMoreOneLess() {
        for (int k = 0; k < 8; k++) {
            for (int v = 0; v < 256; v++) {
                for (int flags : new int[] {0x02, 0xD7}) {
                    changeByOne(k, v, flags, 1);
                    changeByOne(k, v, flags, -1);
                }
            }
        }
    }

    private static void changeByOne(int k, int v, int flags, int by) {
        Machine machine = Programs.machineWith(Programs.hex(8 * k + (by > 0 ? 4 : 5)));
        machine.put(4, 3);
        int place = 0x300;
        if (k == 6) {
            machine.write(place, v);
        } else {
            machine.put(k, v);
        }
        machine.put(6, flags);
        int due = v + by & 255;
        boolean half = by > 0 ? v % 16 == 15 : v % 16 != 0;
        String name = by + " on " + k + " of " + v;
        Checks.same(name + " cycles", machine.step(1), k == 6 ? 10 : 5);
        Checks.same(name, k == 6 ? machine.read(place) : machine.register(k), due);
        Checks.same(name + " flags", machine.register(6),
            ArithmeticTest.logic(due) | (half ? 16 : 0) | flags & 1);
    }

    private static void immediate() {
        for (int k = 0; k < 8; k++) {
            String place = k == 6 ? "[566]" : Rows.NAMES[k];
            Rows.row(Programs.hex(8 * k + 6) + " 9C", "F=FF", k == 6 ? 10 : 7, place + "=9C");
            Rows.row(Programs.hex(8 * k + 6) + " 0", "F=0 [566]=5", k == 6 ? 10 : 7, place + "=0");
        }
    }

    private static void turns() {
        Rows.row("07", "A=81 F=D6", 4, "A=3 F=D7");
        Rows.row("07", "A=7E F=D7", 4, "A=FC F=D6");
        Rows.row("0F", "A=81 F=D6", 4, "A=C0 F=D7");
        Rows.row("0F", "A=7E F=D7", 4, "A=3F F=D6");
        Rows.row("17", "A=81 F=D6", 4, "A=2 F=D7");
        Rows.row("17", "A=7E F=D7", 4, "A=FD F=D6");
        Rows.row("1F", "A=81 F=D6", 4, "A=40 F=D7");
        Rows.row("1F", "A=7E F=D7", 4, "A=BF F=D6");
        Rows.row("2F", "A=A5 F=D7", 4, "A=5A");
        Rows.row("2F", "A=0 F=2", 4, "A=FF");
        Rows.row("37", "F=D6", 4, "F=D7");
        Rows.row("37", "F=D7", 4, "F=D7");
        Rows.row("3F", "F=D6", 4, "F=D7");
        Rows.row("3F", "F=3", 4, "F=2");
    }

    private static void transfers() {
        int[] start = {0x11, 0x22, 0x33, 0x44, 0x05, 0x66, 0x9C, 0x77};
        for (int y = 0; y < 8; y++) {
            for (int z = 0; z < 8; z++) {
                if (y == 6 && z == 6) {
                    continue;
                }
                String place = y == 6 ? "[566]" : Rows.NAMES[y];
                Rows.row(Programs.hex(0x40 + 8 * y + z), "[566]=9C F=FF", y == 6 || z == 6 ? 7 : 5,
                    place + "=" + Programs.hex(start[z]));
            }
        }
        Rows.row("76", "F=FF [566]=9C", 7, "");
        Rows.row("77", "H=F5", 7, "[566]=77");
    }

    /** Each condition, by the flags that make it hold and by all others that must not matter. */
    private static void conditions() {
        int[] bits = {0x40, 0x40, 0x01, 0x01, 0x04, 0x04, 0x80, 0x80};
        for (int y = 0; y < 8; y++) {
            for (int flags : new int[] {0x02, 0xD7, bits[y] | 2, 0xD7 & ~bits[y]}) {
                boolean holds = (flags & bits[y]) != 0 == (y % 2 == 1);
                String before = "F=" + Programs.hex(flags) + " SP=900 [900]=CD [901]=AB";
                Rows.row(Programs.hex(0xC0 + 8 * y), before, holds ? 11 : 5,
                    holds ? "PC=ABCD SP=902" : "");
                Rows.row(Programs.hex(0xC2 + 8 * y) + " 34 12", before, 10, holds ? "PC=1234" : "");
                Rows.row(Programs.hex(0xC4 + 8 * y) + " 34 12", before, holds ? 17 : 11,
                    holds ? "PC=1234 SP=8FE [8FE]=3 [8FF]=1" : "");
            }
        }
    }

    private static void stack() {
        Rows.row("C5", "F=FF", 11, "SP=7FE [7FE]=22 [7FF]=11");
        Rows.row("D5", "", 11, "SP=7FE [7FE]=44 [7FF]=33");
        Rows.row("E5", "", 11, "SP=7FE [7FE]=66 [7FF]=5");
        Rows.row("F5", "F=FF", 11, "SP=7FE [7FE]=D7 [7FF]=77");
        Rows.row("F5", "F=0", 11, "SP=7FE [7FE]=2 [7FF]=77");
        Rows.row("C1", "[800]=CD [801]=AB F=FF", 10, "SP=802 B=AB C=CD");
        Rows.row("D1", "[800]=CD [801]=AB", 10, "SP=802 D=AB E=CD");
        Rows.row("E1", "[800]=CD [801]=AB", 10, "SP=802 H=AB L=CD");
        Rows.row("F1", "[800]=FF [801]=AB", 10, "SP=802 A=AB F=D7");
        Rows.row("F1", "[800]=0 [801]=AB F=FF", 10, "SP=802 A=AB F=2");
        Rows.row("C9", "[800]=CD [801]=AB", 10, "SP=802 PC=ABCD");
        Rows.row("D9", "[800]=CD [801]=AB", 10, "SP=802 PC=ABCD");
        for (int y = 1; y < 8; y += 2) {
            Rows.row(Programs.hex(0xC5 + 8 * y) + " CD AB", "", 17, "SP=7FE [7FE]=3 [7FF]=1 PC=ABCD");
        }
        for (int y = 0; y < 8; y++) {
            Rows.row(Programs.hex(0xC7 + 8 * y), "F=FF", 11,
                "SP=7FE [7FE]=1 [7FF]=1 PC=" + Programs.hex(8 * y));
        }
        Rows.row("F9", "", 5, "SP=566");
    }

    private static void jumps() {
        Rows.row("C3 CD AB", "F=FF", 10, "PC=ABCD");
        Rows.row("CB CD AB", "", 10, "PC=ABCD");
        Rows.row("E9", "H=AB", 5, "PC=AB66");
    }

    private static void exchanges() {
        Rows.row("E3", "[800]=CD [801]=AB F=FF", 18, "H=AB L=CD [800]=66 [801]=5");
        Rows.row("EB", "F=FF", 4, "D=5 E=66 H=33 L=44");
        Rows.row("F3", "F=FF", 4, "");
        Rows.row("FB", "F=FF", 4, "");
        Rows.row("D3 C8", "F=FF", 10, "");
        Rows.row("DB C8", "F=FF", 10, "A=FF");
    }

    private static void codesAreReadFirst() {
        // The word behind the code is read before the stack, which lies over it, is written.
        Rows.row("CD CD AB", "SP=103", 17, "PC=ABCD SP=101 [101]=3 [102]=1");
        Rows.row("36 9C", "H=1 L=1", 10, "[101]=9C");
        Rows.row("34", "H=1 L=0", 10, "[100]=35 F=06");
    }
}
