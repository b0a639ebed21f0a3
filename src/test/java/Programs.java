/** Bytes written as text to the base 16, and a picture of all that an object shows. */
final class Programs {
    /** Makes the same machine in the same state, as often as it is asked. */
    interface Maker {
        Machine make();
    }

    private Programs() {
    }

    static int[] bytes(String text) {
        String[] words = text.trim().split("\\s+");
        int[] result = new int[words.length];
        for (int i = 0; i < words.length; i++) {
            result[i] = Integer.parseInt(words[i], 16);
        }
        return result;
    }

    static String hex(int v) {
        return Integer.toHexString(v);
    }

    static void load(Machine machine, int address, String text) {
        int place = address;
        for (int b : bytes(text)) {
            machine.write(place & 4095, b);
            place++;
        }
    }

    /** A new machine with a program at 0x100, where PC is, and the stack at 0x800. */
    static Machine machineWith(String text) {
        Machine machine = new Machine();
        load(machine, 0x100, text);
        machine.put(8, 0x100);
        machine.put(9, 0x800);
        return machine;
    }

    /** All that can be asked, byte by byte; one machine has too few calls for that. */
    static String picture(Maker maker) {
        Machine machine = maker.make();
        StringBuilder text = new StringBuilder(quickPicture(machine));
        text.append(machine.cycles());
        int written = machine.written();
        for (int i = Math.max(0, written - 256); i < written; i++) {
            machine = withCallsLeft(machine, maker);
            text.append(' ').append(machine.text(i));
        }
        for (int address = 0; address < 4096; address++) {
            machine = withCallsLeft(machine, maker);
            appendByte(text, " m", address, machine.read(address));
            appendByte(text, " d", address, machine.readDisk(address));
        }
        return text.toString();
    }

    private static Machine withCallsLeft(Machine machine, Maker maker) {
        return machine.hasCallsLeft(2) ? machine : maker.make();
    }

    /** Registers, what is told, how much is written, and the sum, but not the cycles. */
    static String quickPicture(Machine machine) {
        StringBuilder text = new StringBuilder();
        for (int k = 0; k < 10; k++) {
            text.append(machine.register(k)).append(' ');
        }
        for (int what = 0; what < 6; what++) {
            text.append(machine.told(what)).append(' ');
        }
        return text.append(machine.written()).append(' ').append(machine.sum()).append(' ').toString();
    }

    private static void appendByte(StringBuilder text, String kind, int address, int b) {
        if (b != 0) {
            text.append(kind).append(address).append('=').append(b);
        }
    }
}
