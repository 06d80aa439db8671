/** Promises 1 to 6: a new object, poke, peek, start, set and register. */
public final class StateTest {
    private static final Rows ROWS = new Rows();
    private static final int[] WRONG = {-1, 9, 10, 1024, Integer.MAX_VALUE, Integer.MIN_VALUE};

    public static void main(String[] args) {
        newObject();
        newMemory();
        objectsAreApart();
        pokeAndPeek();
        pokeOutside();
        startWhere();
        startWrong();
        setAndRegister();
        setP();
        setWrong();
        ROWS.end();
    }

    private static void newObject() {
        WideCore core = new WideCore();
        ROWS.due("NONE", WideCore.NONE, -1);
        int[] registers = {0, 0, 0, 255, 0, 0, 52, 0, 0};
        for (int i = 0; i < registers.length; i++) {
            ROWS.due("new register " + i, core.register(i), registers[i]);
        }
        ROWS.due("new stopped", core.stopped(), false);
        ROWS.due("new touches", core.touches(), 0);
        ROWS.due("new touched", core.touched(0), -1);
        ROWS.due("new steps", core.steps(), 0);
        ROWS.due("new run", core.run(1), 1);
    }

    /** On two objects, since nothing is promised after 512 calls. */
    private static void newMemory() {
        WideCore lower = new WideCore();
        WideCore upper = new WideCore();
        for (int i = 0; i < 512; i++) {
            ROWS.due("new peek " + i, lower.peek(i), 0);
            ROWS.due("new peek " + (512 + i), upper.peek(512 + i), 0);
        }
    }

    private static void objectsAreApart() {
        WideCore one = new WideCore();
        WideCore other = new WideCore();
        one.poke(0, 0x48, 1);
        one.set(0, 5);
        one.run(1);
        ROWS.due("other peek", other.peek(0), 0);
        ROWS.due("other register", other.register(0), 0);
        ROWS.due("other steps", other.steps(), 0);
        ROWS.due("other touches", other.touches(), 0);
    }

    private static void pokeAndPeek() {
        WideCore core = new WideCore();
        for (int n = 1; n <= 4; n++) {
            int cell = 16 * n;
            ROWS.due("poke " + n, core.poke(cell, 0x84838281, n), true);
            for (int i = 0; i < 5; i++) {
                ROWS.due("peek of " + n, core.peek(cell + i), i < n ? 0x81 + i : 0);
            }
        }
        ROWS.due("poke negative", core.poke(100, -2, 4), true);
        ROWS.due("peek lowest", core.peek(100), 254);
        ROWS.due("peek highest", core.peek(103), 255);
        ROWS.due("poke again", core.poke(100, 0x1FF00, 1), true);
        ROWS.due("peek again", core.peek(100), 0);
        ROWS.due("poke is no touch", core.touches(), 0);
    }

    private static void pokeOutside() {
        WideCore core = new WideCore();
        for (int n = 1; n <= 4; n++) {
            ROWS.due("poke at the end", core.poke(1024 - n, 0x04030201, n), true);
            ROWS.due("poke over the end", core.poke(1025 - n, -1, n), false);
            ROWS.due("poke before", core.poke(-1, -1, n), false);
            ROWS.due("poke far before", core.poke(Integer.MIN_VALUE, -1, n), false);
            ROWS.due("poke far behind", core.poke(Integer.MAX_VALUE, -1, n), false);
        }
        for (int n : new int[] {0, -1, 5, Integer.MAX_VALUE, Integer.MIN_VALUE}) {
            ROWS.due("poke n " + n, core.poke(0, -1, n), false);
        }
        ROWS.due("nothing poked at 0", core.peek(0), 0);
        for (int i = 0; i < 4; i++) {
            ROWS.due("nothing poked at the end", core.peek(1020 + i), i + 1);
        }
        for (int cell : new int[] {-1, 1024, Integer.MAX_VALUE, Integer.MIN_VALUE}) {
            ROWS.due("peek " + cell, core.peek(cell), -1);
        }
    }

    private static void startWhere() {
        WideCore core = new WideCore();
        core.poke(0, 0x02, 1);
        core.run(1);
        ROWS.due("stopped", core.stopped(), true);
        ROWS.due("start", core.start(255, 65535), true);
        ROWS.due("started", core.stopped(), false);
        ROWS.due("start PB", core.register(7), 255);
        ROWS.due("start PC", core.register(8), 65535);
        ROWS.due("start while it runs", core.start(0, 0), true);
        ROWS.due("start PB 0", core.register(7), 0);
        ROWS.due("start PC 0", core.register(8), 0);
        ROWS.due("start leaves P", core.register(6), 52);
        ROWS.due("start leaves S", core.register(3), 255);
        ROWS.due("start leaves steps", core.steps(), 1);
    }

    private static void startWrong() {
        WideCore core = new WideCore();
        core.poke(0, 0x02, 1);
        core.run(1);
        int[][] wrong = {{256, 0}, {-1, 0}, {0, 65536}, {0, -1}, {Integer.MAX_VALUE, 0}, {0, Integer.MIN_VALUE}};
        for (int[] pair : wrong) {
            ROWS.due("start " + pair[0] + " " + pair[1], core.start(pair[0], pair[1]), false);
            ROWS.due("still stopped", core.stopped(), true);
            ROWS.due("PB left", core.register(7), 0);
            ROWS.due("PC left", core.register(8), 1);
        }
    }

    private static void setAndRegister() {
        WideCore core = new WideCore();
        int[] narrow = {0x5678, 0x78, 0x78, 0x5678, 0x5678, 0x78};
        int[] wide = {0x5678, 0x5678, 0x5678, 0x5678, 0x5678, 0x78};
        for (int i = 0; i < 6; i++) {
            ROWS.due("set " + i, core.set(i, 0x12345678), true);
            ROWS.due("register " + i, core.register(i), narrow[i]);
        }
        core.set(6, 0);
        for (int i = 0; i < 6; i++) {
            ROWS.due("set wide " + i, core.set(i, 0x12345678), true);
            ROWS.due("register wide " + i, core.register(i), wide[i]);
            core.set(i, -1);
            ROWS.due("register of -1, " + i, core.register(i), i == 5 ? 255 : 65535);
        }
        ROWS.due("set leaves P", core.register(6), 0);
        ROWS.due("set leaves PC", core.register(8), 0);
    }

    private static void setP() {
        WideCore core = new WideCore();
        ROWS.due("set P", core.set(6, 0x1200), true);
        ROWS.due("P is cut", core.register(6), 0);
        core.set(0, 0x1234);
        core.set(1, 0x1234);
        core.set(2, 0x5678);
        core.set(6, 0xEF);
        ROWS.due("X stays wide", core.register(1), 0x1234);
        core.set(6, 0x10);
        ROWS.due("P", core.register(6), 0x10);
        ROWS.due("X becomes narrow", core.register(1), 0x34);
        ROWS.due("Y becomes narrow", core.register(2), 0x78);
        core.set(6, 0);
        ROWS.due("X's upper byte is gone", core.register(1), 0x34);
        ROWS.due("C is left", core.register(0), 0x1234);
    }

    private static void setWrong() {
        WideCore core = new WideCore();
        for (int what : WRONG) {
            ROWS.due("set " + what, core.set(what, 1), false);
            ROWS.due("register " + what, core.register(what), -1);
        }
        ROWS.due("set PB", core.set(7, 1), false);
        ROWS.due("set PC", core.set(8, 1), false);
        ROWS.due("PB left", core.register(7), 0);
        ROWS.due("PC left", core.register(8), 0);
    }
}
