import java.util.Map;
import java.util.TreeMap;

/**
 * One instruction a row: its code, what is put before it, its cycles and what it changes. Whatever a
 * row does not name must stay as it was.
 */
final class Rows {
    static final String[] NAMES = {"B", "C", "D", "E", "H", "L", "F", "A", "PC", "SP"};
    private static final String START = "B=11 C=22 D=33 E=44 H=05 L=66 F=02 A=77 PC=100 SP=800";

    private Rows() {
    }

    static void row(String code, String before, int cycles, String after) {
        Machine machine = new Machine();
        TreeMap<Integer, Integer> bytes = new TreeMap<>();
        int length = apply(machine, bytes, START + " " + before, code);
        Map<String, Integer> due = new TreeMap<>();
        for (int k = 0; k < NAMES.length; k++) {
            due.put(NAMES[k], machine.register(k));
        }
        due.put("PC", machine.register(8) + length & 0xFFFF);
        expect(due, bytes, after);
        String name = code + " after " + before;
        Checks.same(name + " cycles", machine.step(1), cycles);
        Checks.same(name + " cycles in all", machine.cycles(), cycles);
        for (int k = 0; k < NAMES.length; k++) {
            Checks.same(name + " " + NAMES[k], machine.register(k), due.get(NAMES[k]));
        }
        checkMemory(name, machine, bytes);
    }

    private static int apply(Machine machine, Map<Integer, Integer> bytes, String text, String code) {
        int pc = 0;
        for (String word : text.trim().split("\\s+")) {
            String[] sides = word.split("=");
            int v = Integer.parseInt(sides[1], 16);
            if (sides[0].startsWith("[")) {
                bytes.put(address(sides[0]), v);
            } else {
                machine.put(number(sides[0]), v);
                pc = sides[0].equals("PC") ? v : pc;
            }
        }
        int[] program = Programs.bytes(code);
        for (int i = 0; i < program.length; i++) {
            bytes.put(pc + i & 4095, program[i]);
        }
        for (Map.Entry<Integer, Integer> entry : bytes.entrySet()) {
            machine.write(entry.getKey(), entry.getValue());
        }
        return program.length;
    }

    private static void expect(Map<String, Integer> due, Map<Integer, Integer> bytes, String after) {
        if (after.isEmpty()) {
            return;
        }
        for (String word : after.trim().split("\\s+")) {
            String[] sides = word.split("=");
            int v = Integer.parseInt(sides[1], 16);
            if (sides[0].startsWith("[")) {
                bytes.put(address(sides[0]), v);
            } else {
                number(sides[0]);
                due.put(sides[0], v);
            }
        }
    }

    /** The sum tells of a byte that changed elsewhere, for which one object has too few calls. */
    private static void checkMemory(String name, Machine machine, Map<Integer, Integer> bytes) {
        int sum = 0;
        for (Map.Entry<Integer, Integer> entry : bytes.entrySet()) {
            sum += entry.getValue() * (entry.getKey() + 1);
            Checks.same(name + " byte " + Programs.hex(entry.getKey()),
                machine.read(entry.getKey()), entry.getValue());
        }
        Checks.same(name + " sum", machine.sum(), sum);
    }

    private static int address(String text) {
        return Integer.parseInt(text.substring(1, text.length() - 1), 16);
    }

    private static int number(String name) {
        for (int k = 0; k < NAMES.length; k++) {
            if (NAMES[k].equals(name)) {
                return k;
            }
        }
        throw new IllegalArgumentException(name);
    }
}
