/** Terms: bytes and words that go beyond their bits, and addresses that go beyond memory. */
public final class WordTest {
    public static void main(String[] args) {
        registersGoRound();
        sumsAreCut();
        differencesAreCut();
        turnsAreCut();
        pairsGoRound();
        pairSumsAreCut();
        programGoesRound();
        stackGoesRoundDown();
        stackGoesRoundUp();
        pairAddressesAreModulo();
        toldAddressesAreModulo();
        bytesAtHlAreModulo();
        stackAddressesAreModulo();
        programAddressesAreModulo();
        wordsGoRoundMemory();
        pushedWordsGoRoundMemory();
        jumpsKeepTheWholeWord();
        Checks.end();
    }

    private static String place(int k) {
        return k == 6 ? "[566]" : Rows.NAMES[k];
    }

    private static void registersGoRound() {
        Checks.sentence("BYTES have 8 bits: a register that is 1 more, 1 less");
        for (int k = 0; k < 8; k++) {
            if (k == 4 || k == 5) {
                continue;
            }
            int cycles = k == 6 ? 10 : 5;
            Rows.row(Programs.hex(8 * k + 4), place(k) + "=FF", cycles, place(k) + "=0 F=56");
            Rows.row(Programs.hex(8 * k + 5), place(k) + "=0", cycles, place(k) + "=FF F=86");
        }
        Rows.row("24", "H=FF", 5, "H=0 F=56");
        Rows.row("25", "H=0", 5, "H=FF F=86");
        Rows.row("2C", "L=FF", 5, "L=0 F=56");
        Rows.row("2D", "L=0", 5, "L=FF F=86");
    }

    private static void sumsAreCut() {
        Checks.sentence("BYTES have 8 bits: a sum");
        Rows.row("80", "A=FF B=1", 4, "A=0 F=57");
        Rows.row("80", "A=FF B=FF", 4, "A=FE F=93");
        Rows.row("88", "A=FF B=0 F=3", 4, "A=0 F=57");
        Rows.row("88", "A=FF B=FF F=3", 4, "A=FF F=97");
        Rows.row("C6 80", "A=80", 7, "A=0 F=47");
        Rows.row("CE FF", "A=FF F=3", 7, "A=FF F=97");
        Rows.row("27", "A=FF F=13", 4, "A=65 F=17");
    }

    private static void differencesAreCut() {
        Checks.sentence("BYTES have 8 bits: a difference");
        Rows.row("90", "A=0 B=1", 4, "A=FF F=87");
        Rows.row("90", "A=0 B=FF", 4, "A=1 F=03");
        Rows.row("98", "A=0 B=0 F=3", 4, "A=FF F=87");
        Rows.row("98", "A=0 B=FF F=3", 4, "A=0 F=47");
        Rows.row("D6 80", "A=0", 7, "A=80 F=93");
        Rows.row("DE FF", "A=0 F=3", 7, "A=0 F=47");
    }

    private static void turnsAreCut() {
        Checks.sentence("BYTES have 8 bits: A is turned");
        Rows.row("07", "A=FF", 4, "A=FF F=3");
        Rows.row("07", "A=80", 4, "A=1 F=3");
        Rows.row("0F", "A=1", 4, "A=80 F=3");
        Rows.row("17", "A=80", 4, "A=0 F=3");
        Rows.row("1F", "A=1", 4, "A=0 F=3");
        Rows.row("1F", "A=0 F=3", 4, "A=80 F=2");
        Rows.row("2F", "A=0", 4, "A=FF");
    }

    private static void pairsGoRound() {
        Checks.sentence("WORDS have 16 bits: a pair that is 1 more, 1 less");
        Rows.row("03", "B=FF C=FF F=D7", 5, "B=0 C=0");
        Rows.row("13", "D=FF E=FF", 5, "D=0 E=0");
        Rows.row("23", "H=FF L=FF", 5, "H=0 L=0");
        Rows.row("33", "SP=FFFF", 5, "SP=0");
        Rows.row("0B", "B=0 C=0 F=D7", 5, "B=FF C=FF");
        Rows.row("1B", "D=0 E=0", 5, "D=FF E=FF");
        Rows.row("2B", "H=0 L=0", 5, "H=FF L=FF");
        Rows.row("3B", "SP=0", 5, "SP=FFFF");
        Rows.row("03", "B=0 C=FF", 5, "B=1 C=0");
        Rows.row("0B", "B=1 C=0", 5, "B=0 C=FF");
    }

    private static void pairSumsAreCut() {
        Checks.sentence("HL becomes HL and pair p together, CARRY 1 if that is above 0xFFFF");
        Rows.row("09", "H=FF L=FF B=0 C=0 F=3", 10, "F=2");
        Rows.row("09", "H=FF L=FF B=0 C=1", 10, "H=0 L=0 F=3");
        Rows.row("19", "H=80 L=0 D=7F E=FF F=D7", 10, "H=FF L=FF F=D6");
        Rows.row("19", "H=80 L=0 D=80 E=0 F=D6", 10, "H=0 L=0 F=D7");
        Rows.row("29", "H=7F L=FF F=3", 10, "H=FF L=FE F=2");
        Rows.row("29", "H=FF L=FF", 10, "L=FE F=3");
        Rows.row("39", "H=0 L=1 SP=FFFE F=3", 10, "H=FF L=FF F=2");
        Rows.row("39", "H=0 L=2 SP=FFFE", 10, "H=0 L=0 F=3");
    }

    private static void programGoesRound() {
        Checks.sentence("WORDS have 16 bits: PC goes on");
        Rows.row("00", "PC=FFFF", 4, "PC=0");
        Rows.row("3E 5", "PC=FFFE", 7, "PC=0 A=5");
        Rows.row("3E 5", "PC=FFFF", 7, "PC=1 A=5");
        Rows.row("01 34 12", "PC=FFFD", 10, "PC=0 B=12 C=34");
        Rows.row("01 34 12", "PC=FFFE", 10, "PC=1 B=12 C=34");
        Rows.row("01 34 12", "PC=FFFF", 10, "PC=2 B=12 C=34");
        Rows.row("CA 34 12", "PC=FFFD F=2", 10, "PC=0");
        Rows.row("CD CD AB", "PC=FFFD", 17, "PC=ABCD SP=7FE [7FE]=0 [7FF]=0");
        Rows.row("CD CD AB", "PC=FFFF", 17, "PC=ABCD SP=7FE [7FE]=2 [7FF]=0");
        Rows.row("FF", "PC=FFFF", 11, "PC=38 SP=7FE [7FE]=0 [7FF]=0");
    }

    private static void stackGoesRoundDown() {
        Checks.sentence("TO PUSH a word: SP is 2 less, the word goes there");
        Rows.row("C5", "SP=2", 11, "SP=0 [0]=22 [1]=11");
        Rows.row("C5", "SP=1", 11, "SP=FFFF [FFF]=22 [0]=11");
        Rows.row("C5", "SP=0", 11, "SP=FFFE [FFE]=22 [FFF]=11");
        Rows.row("F5", "SP=1 F=D7", 11, "SP=FFFF [FFF]=D7 [0]=77");
        Rows.row("CD CD AB", "SP=0", 17, "PC=ABCD SP=FFFE [FFE]=3 [FFF]=1");
        Rows.row("C4 CD AB", "SP=1", 17, "PC=ABCD SP=FFFF [FFF]=3 [0]=1");
        Rows.row("FF", "SP=1", 11, "PC=38 SP=FFFF [FFF]=1 [0]=1");
    }

    private static void stackGoesRoundUp() {
        Checks.sentence("TO POP it: it is taken from there, SP is 2 more");
        Rows.row("C1", "SP=FFFD [FFD]=CD [FFE]=AB", 10, "SP=FFFF B=AB C=CD");
        Rows.row("C1", "SP=FFFE [FFE]=CD [FFF]=AB", 10, "SP=0 B=AB C=CD");
        Rows.row("C1", "SP=FFFF [FFF]=CD [0]=AB", 10, "SP=1 B=AB C=CD");
        Rows.row("F1", "SP=FFFF [FFF]=FF [0]=AB", 10, "SP=1 A=AB F=D7");
        Rows.row("C9", "SP=FFFE [FFE]=CD [FFF]=AB", 10, "SP=0 PC=ABCD");
        Rows.row("C0", "SP=FFFF [FFF]=CD [0]=AB", 11, "SP=1 PC=ABCD");
    }

    private static void pairAddressesAreModulo() {
        Checks.sentence("an address is a word, modulo 4096: the byte at BC, DE");
        for (int high = 0; high < 16; high++) {
            String h = Programs.hex(high);
            Rows.row("02", "B=" + h + "2", 7, "[222]=77");
            Rows.row("0A", "B=" + h + "2 [222]=9C", 7, "A=9C");
            Rows.row("12", "D=" + h + "F E=FF", 7, "[FFF]=77");
            Rows.row("1A", "D=" + h + "0 E=0 [0]=9C", 7, "A=9C");
        }
    }

    private static void toldAddressesAreModulo() {
        Checks.sentence("an address is a word, modulo 4096: at nn");
        for (int high = 0; high < 16; high++) {
            String h = " " + Programs.hex(high);
            Rows.row("22 34" + h + "2", "", 16, "[234]=66 [235]=5");
            Rows.row("2A 34" + h + "2", "[234]=9C [235]=7D", 16, "H=7D L=9C");
            Rows.row("32 FF" + h + "F", "", 13, "[FFF]=77");
            Rows.row("3A 0" + h + "0", "[0]=9C", 13, "A=9C");
        }
    }

    private static void bytesAtHlAreModulo() {
        Checks.sentence("an address is a word, modulo 4096: M is the byte at HL");
        for (int high = 0; high < 16; high++) {
            String h = "H=" + Programs.hex(high);
            Rows.row("70", h + "5", 7, "[566]=11");
            Rows.row("46", h + "5 [566]=9C", 7, "B=9C");
            Rows.row("36 9C", h + "F L=FF", 10, "[FFF]=9C");
            Rows.row("34", h + "0 L=0 [0]=4", 10, "[0]=5 F=06");
            Rows.row("35", h + "0 L=0 [0]=4", 10, "[0]=3 F=16");
            Rows.row("B6", h + "F L=FF [FFF]=8", 7, "A=7F F=02");
        }
    }

    private static void stackAddressesAreModulo() {
        Checks.sentence("an address is a word, modulo 4096: SP");
        for (int high = 0; high < 16; high++) {
            String h = Programs.hex(high);
            Rows.row("C5", "SP=" + h + "402", 11, "SP=" + h + "400 [400]=22 [401]=11");
            Rows.row("D1", "SP=" + h + "400 [400]=CD [401]=AB", 10, "SP=" + h + "402 D=AB E=CD");
            Rows.row("E3", "SP=" + h + "400 [400]=CD [401]=AB", 18, "H=AB L=CD [400]=66 [401]=5");
        }
        Rows.row("C5", "SP=1000", 11, "SP=FFE [FFE]=22 [FFF]=11");
        Rows.row("C5", "SP=1001", 11, "SP=FFF [FFF]=22 [0]=11");
        Rows.row("C1", "SP=FFE [FFE]=CD [FFF]=AB", 10, "SP=1000 B=AB C=CD");
    }

    private static void programAddressesAreModulo() {
        Checks.sentence("an address is a word, modulo 4096: PC");
        for (int high = 0; high < 16; high++) {
            String h = Programs.hex(high);
            Rows.row("3E 5", "PC=" + h + "300", 7, "A=5");
            Rows.row("CD CD AB", "PC=" + h + "300", 17, "PC=ABCD SP=7FE [7FE]=3 [7FF]=" + h + "3");
        }
        Rows.row("00", "PC=0FFF", 4, "PC=1000");
        Rows.row("3E 5", "PC=0FFF", 7, "PC=1001 A=5");
        Rows.row("01 34 12", "PC=0FFE", 10, "PC=1001 B=12 C=34");
        Rows.row("01 34 12", "PC=0FFF", 10, "PC=1002 B=12 C=34");
    }

    private static void wordsGoRoundMemory() {
        Checks.sentence("Words in memory have the lower byte first: the higher one behind 4095");
        Rows.row("22 FF 0F", "", 16, "[FFF]=66 [0]=5");
        Rows.row("22 FF FF", "", 16, "[FFF]=66 [0]=5");
        Rows.row("2A FF 0F", "[FFF]=9C [0]=7D", 16, "H=7D L=9C");
        Rows.row("2A FF FF", "[FFF]=9C [0]=7D", 16, "H=7D L=9C");
        Rows.row("E3", "SP=0FFF [FFF]=CD [0]=AB", 18, "H=AB L=CD [FFF]=66 [0]=5");
        Rows.row("E3", "SP=FFFF [FFF]=CD [0]=AB", 18, "H=AB L=CD [FFF]=66 [0]=5");
    }

    private static void pushedWordsGoRoundMemory() {
        Checks.sentence("Words in memory have the lower byte first: a word on the stack behind 4095");
        Rows.row("E5", "SP=1001", 11, "SP=FFF [FFF]=66 [0]=5");
        Rows.row("E1", "SP=FFF [FFF]=CD [0]=AB", 10, "SP=1001 H=AB L=CD");
        Rows.row("D9", "SP=5FFF [FFF]=CD [0]=AB", 10, "SP=6001 PC=ABCD");
    }

    private static void jumpsKeepTheWholeWord() {
        Checks.sentence("PC, SP are words: nothing of them is lost at 4096");
        Rows.row("C3 FF FF", "", 10, "PC=FFFF");
        Rows.row("C2 FF FF", "", 10, "PC=FFFF");
        Rows.row("E9", "H=FF L=FF", 5, "PC=FFFF");
        Rows.row("F9", "H=FF L=FF", 5, "SP=FFFF");
        Rows.row("31 FF FF", "", 10, "SP=FFFF");
        Rows.row("C9", "[800]=FF [801]=FF", 10, "PC=FFFF SP=802");
    }
}
