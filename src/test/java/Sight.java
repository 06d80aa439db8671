import java.util.LinkedHashMap;
import java.util.Map;

/**
 * All that can be seen of an object after some calls. These are made again on as many new objects as it takes,
 * since an object answers for 512 calls only.
 */
final class Sight {
    private static final String[] NAMES = {"C", "X", "Y", "S", "D", "DB", "P", "PB", "PC"};
    private static final int SIZE = 1024;
    private static final int PART = 256;

    /** Some calls, at most 100, on an object. */
    interface Calls {
        void on(WideCore core);
    }

    private Sight() {
    }

    /** The answers of all calls that change nothing. */
    static Map<String, Integer> now(Calls calls) {
        Map<String, Integer> seen = new LinkedHashMap<>();
        look("", made(calls), seen);
        for (int part = 0; part < SIZE; part += PART) {
            WideCore core = made(calls);
            for (int cell = part; cell < part + PART; cell++) {
                seen.put("cell " + cell, core.peek(cell));
            }
        }
        return seen;
    }

    /** What comes later tells what is called for, which nothing tells at once. */
    static Map<String, Integer> later(Calls calls) {
        Map<String, Integer> seen = new LinkedHashMap<>();
        seen.put("a NMI can be called for", made(calls).interrupt() ? 1 : 0);
        WideCore goesOn = made(calls);
        for (int step = 1; step <= 3; step++) {
            seen.put("run " + step, goesOn.run(1));
            look("then " + step + ": ", goesOn, seen);
        }
        WideCore letIn = made(calls);
        letIn.start(0, 64);
        letIn.set(6, 0);
        for (int step = 1; step <= 3; step++) {
            seen.put("started, run " + step, letIn.run(1));
            look("started, then " + step + ": ", letIn, seen);
        }
        return seen;
    }

    private static WideCore made(Calls calls) {
        WideCore core = new WideCore();
        calls.on(core);
        return core;
    }

    private static void look(String when, WideCore core, Map<String, Integer> seen) {
        for (int i = 0; i < NAMES.length; i++) {
            seen.put(when + NAMES[i], core.register(i));
        }
        seen.put(when + "stopped", core.stopped() ? 1 : 0);
        seen.put(when + "steps", core.steps());
        seen.put(when + "touches", core.touches());
        for (int k = 0; k < 8; k++) {
            seen.put(when + "touched " + k, core.touched(k));
        }
    }
}
