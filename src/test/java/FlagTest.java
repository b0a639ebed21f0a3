/** Terms: where a flag goes from 0 to 1, on both sides of each bound, and where conditions turn. */
public final class FlagTest {
    public static void main(String[] args) {
        flagsByteHasItsForm();
        logicOfBytes();
        sumsAbove255();
        lowFoursAbove15();
        differencesBelow0();
        lowFoursBelow0();
        comparesAsDifferences();
        bitwiseLeavesNoCarry();
        halfOfAnd();
        oneMore();
        oneLess();
        carryOfTurns();
        decimalLowFour();
        decimalHighFour();
        decimalAsBefore();
        conditionsThatDoNotHold();
        conditionsThatHold();
        Checks.end();
    }

    private static void flagsByteHasItsForm() {
        Checks.sentence("a byte of them: bit 1 is 1, others 0");
        Rows.row("F5", "F=0", 11, "SP=7FE [7FE]=2 [7FF]=77");
        Rows.row("F5", "F=FF", 11, "SP=7FE [7FE]=D7 [7FF]=77");
        Rows.row("F1", "[800]=0 [801]=AB F=FF", 10, "SP=802 A=AB F=2");
        Rows.row("F1", "[800]=28 [801]=AB F=FF", 10, "SP=802 A=AB F=2");
        Rows.row("F1", "[800]=FF [801]=0 F=0", 10, "SP=802 A=0 F=D7");
        for (int bit = 1; bit < 256; bit *= 2) {
            Rows.row("F1", "[800]=" + Programs.hex(bit), 10,
                "SP=802 A=0 F=" + Programs.hex(bit & 0xD5 | 2));
        }
    }

    private static void logicOfBytes() {
        Checks.sentence("LOGIC: S is its highest bit, Z 1 if it is 0, P 1 if an even number are 1");
        Rows.row("F6 0", "A=0", 7, "A=0 F=46");
        Rows.row("F6 1", "A=0", 7, "A=1 F=02");
        Rows.row("F6 3", "A=0", 7, "A=3 F=06");
        Rows.row("F6 7F", "A=0", 7, "A=7F F=02");
        Rows.row("F6 80", "A=0", 7, "A=80 F=82");
        Rows.row("F6 81", "A=0", 7, "A=81 F=86");
        Rows.row("F6 FE", "A=0", 7, "A=FE F=82");
        Rows.row("F6 FF", "A=0", 7, "A=FF F=86");
    }

    private static void sumsAbove255() {
        Checks.sentence("Sums: CARRY 1 if above 255");
        Rows.row("C6 0", "A=FF F=3", 7, "A=FF F=86");
        Rows.row("C6 1", "A=FE", 7, "A=FF F=86");
        Rows.row("C6 1", "A=FF", 7, "A=0 F=57");
        Rows.row("C6 F", "A=F0", 7, "A=FF F=86");
        Rows.row("C6 10", "A=F0", 7, "A=0 F=47");
        Rows.row("CE 0", "A=FE F=3", 7, "A=FF F=86");
        Rows.row("CE 0", "A=FF F=2", 7, "A=FF F=86");
        Rows.row("CE 0", "A=FF F=3", 7, "A=0 F=57");
        Rows.row("CE FF", "A=0 F=3", 7, "A=0 F=57");
    }

    private static void lowFoursAbove15() {
        Checks.sentence("Sums: HALF 1 if the low fours (and CARRY) are above 15");
        Rows.row("C6 0", "A=F F=13", 7, "A=F F=06");
        Rows.row("C6 1", "A=E", 7, "A=F F=06");
        Rows.row("C6 1", "A=F", 7, "A=10 F=12");
        Rows.row("C6 F", "A=F", 7, "A=1E F=16");
        Rows.row("C6 F0", "A=F", 7, "A=FF F=86");
        Rows.row("CE 1", "A=E F=2", 7, "A=F F=06");
        Rows.row("CE 1", "A=E F=3", 7, "A=10 F=12");
        Rows.row("CE 0", "A=E F=13", 7, "A=F F=06");
        Rows.row("CE F", "A=F F=3", 7, "A=1F F=12");
    }

    private static void differencesBelow0() {
        Checks.sentence("Differences: CARRY 1 if below 0");
        Rows.row("D6 0", "A=0 F=3", 7, "A=0 F=56");
        Rows.row("D6 1", "A=1", 7, "A=0 F=56");
        Rows.row("D6 1", "A=0", 7, "A=FF F=87");
        Rows.row("D6 FF", "A=FF", 7, "A=0 F=56");
        Rows.row("D6 FF", "A=FE", 7, "A=FF F=87");
        Rows.row("D6 10", "A=0", 7, "A=F0 F=97");
        Rows.row("DE 0", "A=0 F=2", 7, "A=0 F=56");
        Rows.row("DE 0", "A=0 F=3", 7, "A=FF F=87");
        Rows.row("DE 0", "A=1 F=3", 7, "A=0 F=56");
        Rows.row("DE FF", "A=FF F=3", 7, "A=FF F=87");
        Rows.row("DE FF", "A=0 F=3", 7, "A=0 F=47");
    }

    private static void lowFoursBelow0() {
        Checks.sentence("Differences: HALF 1 if the low fours' difference (less CARRY) is not below 0");
        Rows.row("D6 1", "A=11", 7, "A=10 F=12");
        Rows.row("D6 1", "A=10 F=13", 7, "A=F F=06");
        Rows.row("D6 F", "A=1F", 7, "A=10 F=12");
        Rows.row("D6 F", "A=1E", 7, "A=F F=06");
        Rows.row("DE 0", "A=11 F=3", 7, "A=10 F=12");
        Rows.row("DE 0", "A=10 F=3", 7, "A=F F=06");
        Rows.row("DE 0", "A=10 F=2", 7, "A=10 F=12");
        Rows.row("DE F", "A=10 F=3", 7, "A=0 F=46");
    }

    private static void comparesAsDifferences() {
        Checks.sentence("7 difference, A stays");
        Rows.row("FE 5", "A=5 F=3", 7, "F=56");
        Rows.row("FE 6", "A=5", 7, "F=87");
        Rows.row("FE 4", "A=5 F=3", 7, "F=12");
        Rows.row("FE FF", "A=0 F=3", 7, "F=03");
        Rows.row("FE 0", "A=FF F=2", 7, "F=96");
        Rows.row("BF", "A=80 F=83", 4, "F=56");
    }

    private static void bitwiseLeavesNoCarry() {
        Checks.sentence("Others: CARRY 0; HALF with 4 .., else 0");
        Rows.row("E6 77", "A=77 F=3", 7, "A=77 F=06");
        Rows.row("EE FF", "A=FF F=13", 7, "A=0 F=46");
        Rows.row("EE 0", "A=8 F=13", 7, "A=8 F=02");
        Rows.row("F6 8", "A=8 F=13", 7, "A=8 F=02");
        Rows.row("F6 0", "A=0 F=13", 7, "A=0 F=46");
    }

    private static void halfOfAnd() {
        Checks.sentence("HALF with 4 bit 3 of (A or the register)");
        Rows.row("E6 0", "A=8", 7, "A=0 F=56");
        Rows.row("E6 8", "A=0", 7, "A=0 F=56");
        Rows.row("E6 8", "A=8", 7, "A=8 F=12");
        Rows.row("E6 F7", "A=F7 F=12", 7, "A=F7 F=82");
        Rows.row("A0", "A=0 B=8", 4, "A=0 F=56");
        Rows.row("A0", "A=7 B=7 F=12", 4, "A=7 F=02");
    }

    private static void oneMore() {
        Checks.sentence("1 more: logic; HALF 1 if its low four bits are 0 then; CARRY stays");
        Rows.row("04", "B=E F=13", 5, "B=F F=07");
        Rows.row("04", "B=F F=3", 5, "B=10 F=13");
        Rows.row("04", "B=F F=2", 5, "B=10 F=12");
        Rows.row("04", "B=10 F=12", 5, "B=11 F=06");
        Rows.row("04", "B=7F", 5, "B=80 F=92");
        Rows.row("04", "B=FF F=2", 5, "B=0 F=56");
        Rows.row("04", "B=FF F=3", 5, "B=0 F=57");
        Rows.row("34", "[566]=F F=3", 10, "[566]=10 F=13");
    }

    private static void oneLess() {
        Checks.sentence("1 less: logic; HALF with 5 if they are not 15; CARRY stays");
        Rows.row("05", "B=10 F=13", 5, "B=F F=07");
        Rows.row("05", "B=F F=3", 5, "B=E F=13");
        Rows.row("05", "B=11 F=2", 5, "B=10 F=12");
        Rows.row("05", "B=1", 5, "B=0 F=56");
        Rows.row("05", "B=0 F=2", 5, "B=FF F=86");
        Rows.row("05", "B=0 F=3", 5, "B=FF F=87");
        Rows.row("05", "B=80", 5, "B=7F F=02");
        Rows.row("35", "[566]=10 F=13", 10, "[566]=F F=07");
    }

    private static void carryOfTurns() {
        Checks.sentence("A is turned left, CARRY its old highest bit; right, its old lowest");
        Rows.row("07", "A=7F F=D7", 4, "A=FE F=D6");
        Rows.row("07", "A=80 F=D6", 4, "A=1 F=D7");
        Rows.row("0F", "A=FE F=D7", 4, "A=7F F=D6");
        Rows.row("0F", "A=1 F=D6", 4, "A=80 F=D7");
        Rows.row("17", "A=7F F=3", 4, "A=FF F=2");
        Rows.row("17", "A=80 F=2", 4, "A=0 F=3");
        Rows.row("1F", "A=FE F=3", 4, "A=FF F=2");
        Rows.row("1F", "A=1 F=2", 4, "A=0 F=3");
    }

    private static void decimalLowFour() {
        Checks.sentence("if l is above 9, or HALF is 1: 6 comes to A, HALF is 1 if l + 6 is above 15");
        Rows.row("27", "A=9", 4, "A=9 F=06");
        Rows.row("27", "A=A", 4, "A=10 F=12");
        Rows.row("27", "A=F", 4, "A=15 F=12");
        Rows.row("27", "A=0 F=12", 4, "A=6 F=06");
        Rows.row("27", "A=9 F=12", 4, "A=F F=06");
        Rows.row("27", "A=A F=12", 4, "A=10 F=12");
    }

    private static void decimalHighFour() {
        Checks.sentence("If h is above 9, or CARRY is 1, or h is 9 and l above 9: 0x60, CARRY is 1");
        Rows.row("27", "A=90", 4, "A=90 F=86");
        Rows.row("27", "A=99", 4, "A=99 F=86");
        Rows.row("27", "A=9A", 4, "A=0 F=57");
        Rows.row("27", "A=A0", 4, "A=0 F=47");
        Rows.row("27", "A=8F", 4, "A=95 F=96");
        Rows.row("27", "A=0 F=3", 4, "A=60 F=07");
        Rows.row("27", "A=F0 F=3", 4, "A=50 F=07");
    }

    private static void decimalAsBefore() {
        Checks.sentence("(all as they were before)");
        Rows.row("27", "A=99 F=12", 4, "A=9F F=86");
        Rows.row("27", "A=9F", 4, "A=5 F=17");
        Rows.row("27", "A=FA F=12", 4, "A=60 F=17");
        Rows.row("27", "A=FF F=13", 4, "A=65 F=17");
    }

    private static String flags(int y, boolean hold) {
        int[] bits = {0x40, 0x01, 0x04, 0x80};
        boolean one = y % 2 == 1 == hold;
        return "F=" + Programs.hex(one ? bits[y / 2] : 0xD7 & ~bits[y / 2]);
    }

    private static void conditionsThatDoNotHold() {
        Checks.sentence("if condition y holds .., else 5, 10, 11 cycles, and nn is gone over");
        for (int y = 0; y < 8; y++) {
            Rows.row(Programs.hex(0xC0 + 8 * y), flags(y, false) + " [800]=CD [801]=AB", 5, "");
            Rows.row(Programs.hex(0xC2 + 8 * y) + " CD AB", flags(y, false), 10, "PC=103");
            Rows.row(Programs.hex(0xC4 + 8 * y) + " CD AB", flags(y, false), 11, "PC=103");
        }
    }

    private static void conditionsThatHold() {
        Checks.sentence("CONDITIONS 0 to 7: Z is 0, Z 1, CARRY 0, CARRY 1, P 0, P 1, S 0, S 1");
        for (int y = 0; y < 8; y++) {
            Rows.row(Programs.hex(0xC0 + 8 * y), flags(y, true) + " [800]=CD [801]=AB", 11,
                "PC=ABCD SP=802");
            Rows.row(Programs.hex(0xC2 + 8 * y) + " CD AB", flags(y, true), 10, "PC=ABCD");
            Rows.row(Programs.hex(0xC4 + 8 * y) + " CD AB", flags(y, true), 17,
                "PC=ABCD SP=7FE [7FE]=3 [7FF]=1");
        }
    }
}
