/** Promises 7, 8 and 13: run, stopped and steps, and which operations stop the machine. */
public final class StepsTest {
    private static final Rows ROWS = new Rows();
    private static final String KNOWN = "00 01 03 05 06 07 08 09 0A 0B 0D 0F 10 11 12 13 15 17 18 19 1A 1B 1D 1F "
            + "20 21 22 23 25 26 27 28 29 2A 2B 2D 2F 30 31 32 33 35 37 38 39 3A 3B 3D 3F "
            + "40 41 43 44 45 46 47 48 49 4A 4B 4C 4D 4F 50 51 52 53 54 55 57 58 59 5A 5B 5C 5D 5F "
            + "60 61 63 64 65 66 67 68 69 6A 6B 6D 6F 70 71 72 73 75 77 78 79 7A 7B 7D 7F "
            + "80 81 82 83 84 85 86 87 88 8A 8B 8C 8D 8E 8F 90 91 92 93 95 97 98 99 9A 9B 9C 9D 9F "
            + "A0 A1 A2 A3 A4 A5 A6 A7 A8 A9 AA AB AC AD AE AF B0 B1 B2 B3 B5 B7 B8 B9 BA BB BD BF "
            + "C0 C1 C2 C3 C5 C6 C7 C8 C9 CA CD CE CF D0 D1 D2 D3 D5 D7 D8 D9 DA DD DF "
            + "E0 E1 E2 E3 E5 E6 E7 E8 E9 EA EB ED EE EF F0 F1 F2 F3 F4 F5 F7 F8 F9 FA FD FF ";

    public static void main(String[] args) {
        everyOperation();
        bounds();
        stopsAndStarts();
        ROWS.end();
    }

    private static void everyOperation() {
        for (int op = 0; op < 256; op++) {
            String code = String.format("%02X", op);
            if (!KNOWN.contains(code + " ")) {
                ROWS.row("stops", "pb=05 pc=0110", code, "stops");
                ROWS.row("stops", "pb=05 pc=0110 p=CB c=1234 x=2345 y=3456 s=4567 d=5678 db=67", code, "stops");
                continue;
            }
            WideCore core = new WideCore();
            core.poke(256, op, 4);
            core.start(0, 256);
            ROWS.due("run of " + code, core.run(1), 1);
            ROWS.due("stopped by " + code, core.stopped(), false);
        }
    }

    private static WideCore endless() {
        WideCore core = new WideCore();
        core.poke(0, 0xFE80, 2);
        return core;
    }

    private static void bounds() {
        WideCore core = endless();
        ROWS.due("run 0", core.run(0), 0);
        ROWS.due("steps after 0", core.steps(), 0);
        ROWS.due("run 1", core.run(1), 1);
        ROWS.due("run 60", core.run(60), 60);
        ROWS.due("steps", core.steps(), 61);
        for (int n : new int[] {-1, 61, Integer.MAX_VALUE, Integer.MIN_VALUE}) {
            ROWS.due("run " + n, core.run(n), -1);
            ROWS.due("steps after run " + n, core.steps(), 61);
        }
    }

    private static void stopsAndStarts() {
        WideCore core = new WideCore();
        core.poke(0, 0x02EAEA, 3);
        ROWS.due("run to the stop", core.run(60), 3);
        ROWS.due("stopped", core.stopped(), true);
        ROWS.due("PC behind the byte", core.register(8), 3);
        ROWS.due("steps", core.steps(), 3);
        ROWS.due("run when stopped", core.run(60), 0);
        ROWS.due("wrong run when stopped", core.run(61), -1);
        ROWS.due("steps when stopped", core.steps(), 3);
        ROWS.due("start", core.start(0, 1), true);
        ROWS.due("run again", core.run(60), 2);
        ROWS.due("steps again", core.steps(), 5);
        core.start(0, 2);
        ROWS.due("the step that stops counts", core.run(1), 1);
        ROWS.due("stopped at once", core.stopped(), true);
    }
}
