import java.util.ArrayList;
import java.util.List;
import java.util.Map;
import java.util.TreeMap;

/**
 * Rows that say what one or more steps do, with all that they must leave as it is.
 *
 * A row is a setup, a code and what is expected. Numbers are hexadecimal.
 *   c x y s d db p pb pc   a register
 *   m040=0102              cell 040 holds 01, cell 041 holds 02
 *   n=3                    three steps (in the expected part; one if not named)
 *   stops                  the machine has stopped
 *   nmi irq                a NMI, an IRQ is called for (in the setup)
 *   t=040,041!             the touched cells, the earliest first, ! if written
 * A register, cell or touch that the expected part doesn't name must be as before; PC, if not named,
 * is behind the code.
 */
final class Rows {
    private static final String[] NAMES = {"c", "x", "y", "s", "d", "db", "p", "pb", "pc"};
    private static final int PC = 8;
    private static final int SIZE = 1024;
    private static final int PART = 256;

    private int wrong = 0;
    private int asked = 0;

    void due(String what, long got, long want) {
        asked++;
        if (got != want) {
            wrong++;
            System.out.println(what + " answered " + got + ", due is " + want);
        }
    }

    void due(String what, boolean got, boolean want) {
        due(what, got ? 1 : 0, want ? 1 : 0);
    }

    void end() {
        System.out.println(asked + " answers asked, " + wrong + " wrong");
        if (wrong != 0) {
            System.exit(1);
        }
    }

    void row(String name, String setup, String code, String expected) {
        String title = name + " [" + setup + " | " + code + "]";
        Map<String, String> before = parts(setup);
        Map<String, String> after = parts(expected);
        int[] cells = new int[SIZE];
        putCells(before, cells);
        int[] bytes = bytes(code.replace(" ", ""));
        putCode(before, bytes, cells);
        WideCore core = made(before, cells);
        int[] registers = new int[NAMES.length];
        for (int i = 0; i < NAMES.length; i++) {
            registers[i] = core.register(i);
        }
        int n = number(after, "n", 1);
        due(title + " run", core.run(n), n);
        registers[PC] = (registers[PC] + bytes.length) & 0xFFFF;
        for (int i = 0; i < NAMES.length; i++) {
            due(title + " " + NAMES[i], core.register(i), number(after, NAMES[i], registers[i]));
        }
        compareTouches(title, core, after.getOrDefault("t", ""));
        due(title + " stopped", core.stopped(), after.containsKey("stops"));
        due(title + " steps", core.steps(), n);
        compareCells(title, before, after, cells);
    }

    private static WideCore made(Map<String, String> before, int[] cells) {
        WideCore core = new WideCore();
        for (int i = 0; i < cells.length; i++) {
            if (cells[i] != 0) {
                core.poke(i, cells[i], 1);
            }
        }
        core.start(number(before, "pb", 0), number(before, "pc", 0));
        core.set(6, number(before, "p", core.register(6)));
        for (int i = 0; i < 6; i++) {
            core.set(i, number(before, NAMES[i], core.register(i)));
        }
        if (before.containsKey("nmi")) {
            core.interrupt();
        }
        core.line(before.containsKey("irq"));
        return core;
    }

    /** Each part is looked at on an object of its own, since nothing is promised after 512 calls. */
    private void compareCells(String title, Map<String, String> before, Map<String, String> after, int[] cells) {
        int[] want = cells.clone();
        putCells(after, want);
        for (int part = 0; part < SIZE; part += PART) {
            WideCore core = made(before, cells);
            core.run(number(after, "n", 1));
            for (int i = part; i < part + PART; i++) {
                due(title + " cell " + Integer.toHexString(i), core.peek(i), want[i]);
            }
        }
    }

    private void compareTouches(String title, WideCore core, String touches) {
        List<Integer> want = new ArrayList<>();
        for (String touch : touches.isEmpty() ? new String[0] : touches.split(",")) {
            boolean written = touch.endsWith("!");
            want.add(Integer.parseInt(touch.replace("!", ""), 16) + (written ? 1024 : 0));
        }
        due(title + " touches", core.touches(), want.size());
        for (int k = 0; k < 8; k++) {
            int due = k < want.size() ? want.get(want.size() - 1 - k) : -1;
            due(title + " touched " + k, core.touched(k), due);
        }
    }

    private static void putCode(Map<String, String> before, int[] code, int[] cells) {
        int bank = number(before, "pb", 0);
        int address = number(before, "pc", 0);
        for (int i = 0; i < code.length; i++) {
            cells[512 * (bank % 2) + ((address + i) & 0xFFFF) % 512] = code[i];
        }
    }

    private static void putCells(Map<String, String> parts, int[] cells) {
        for (Map.Entry<String, String> part : parts.entrySet()) {
            if (part.getKey().startsWith("m")) {
                int cell = Integer.parseInt(part.getKey().substring(1), 16);
                for (int b : bytes(part.getValue())) {
                    cells[cell++] = b;
                }
            }
        }
    }

    private static Map<String, String> parts(String text) {
        Map<String, String> parts = new TreeMap<>();
        for (String part : text.trim().split(" +")) {
            if (part.isEmpty()) {
                continue;
            }
            int at = part.indexOf('=');
            String key = at < 0 ? part : part.substring(0, at);
            if (!known(key)) {
                throw new IllegalArgumentException("no such part: " + part);
            }
            parts.put(key, at < 0 ? "" : part.substring(at + 1));
        }
        return parts;
    }

    private static boolean known(String key) {
        return List.of(NAMES).contains(key) || List.of("n", "t", "stops", "nmi", "irq").contains(key)
                || key.matches("m[0-9A-F]{3}");
    }

    private static int number(Map<String, String> parts, String key, int otherwise) {
        return parts.containsKey(key) ? Integer.parseInt(parts.get(key), 16) : otherwise;
    }

    private static int[] bytes(String hex) {
        int[] bytes = new int[hex.length() / 2];
        for (int i = 0; i < bytes.length; i++) {
            bytes[i] = Integer.parseInt(hex.substring(2 * i, 2 * i + 2), 16);
        }
        return bytes;
    }
}
