/** Promises 11 and 12: touches and touched. (Rows looks at both after every row of the other tests.) */
public final class TouchesTest {
    private static final Rows ROWS = new Rows();

    public static void main(String[] args) {
        noneAtFirst();
        latestEight();
        callsAreNoTouches();
        ROWS.end();
    }

    private static void noneAtFirst() {
        WideCore core = new WideCore();
        core.poke(0, 0xEAEAA9, 3);
        core.run(2);
        ROWS.due("operations and operands", core.touches(), 0);
        for (int k = -1; k < 9; k++) {
            ROWS.due("touched " + k, core.touched(k), -1);
        }
    }

    private static void latestEight() {
        WideCore core = new WideCore();
        core.poke(0, 0xFD8048, 3);
        for (int pushes = 1; pushes <= 20; pushes++) {
            core.run(2);
            ROWS.due("touches", core.touches(), pushes);
            for (int k = 0; k < 8; k++) {
                int due = k < pushes ? 1024 + 255 - (pushes - 1 - k) : -1;
                ROWS.due("touched " + k + " of " + pushes, core.touched(k), due);
            }
            for (int k : new int[] {-1, 8, 9, Integer.MAX_VALUE, Integer.MIN_VALUE}) {
                ROWS.due("touched " + k, core.touched(k), -1);
            }
        }
    }

    private static void callsAreNoTouches() {
        WideCore core = new WideCore();
        core.poke(0, 0x20A5, 2);
        core.run(1);
        core.poke(40, 1, 4);
        core.peek(40);
        core.set(0, 1);
        core.start(0, 0);
        core.interrupt();
        core.line(true);
        core.run(0);
        core.run(61);
        ROWS.due("touches", core.touches(), 1);
        ROWS.due("touched", core.touched(0), 32);
        ROWS.due("touched before", core.touched(1), -1);
    }
}
