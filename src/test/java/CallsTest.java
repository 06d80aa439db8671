import java.util.LinkedHashMap;
import java.util.Map;

/**
 * Every call of the face at the bounds that the document names: the last values that are taken, the first ones
 * beyond them, the least and the greatest int; and that it changes what the document says and nothing else.
 */
public final class CallsTest {
    private static final Rows ROWS = new Rows();
    private static final int LEAST = Integer.MIN_VALUE;
    private static final int GREATEST = Integer.MAX_VALUE;
    private static final int[] VALUES = {LEAST, LEAST + 1, -65537, -65536, -257, -256, -1, 0, 1, 127, 128, 255, 256,
        257, 32767, 32768, 65535, 65536, 65537, GREATEST - 1, GREATEST};

    /** A call, and its answer as a number: 1 for true, 0 for false. */
    private interface Call {
        int on(WideCore core);
    }

    public static void main(String[] args) {
        statesAreSo();
        newObject();
        pokeTaken();
        pokeRefused();
        peekBounds();
        startTaken();
        startRefused();
        setTaken();
        setPTaken();
        setRefused();
        registerBounds();
        runTaken();
        runToTheStop();
        runRefused();
        runWhenStopped();
        untilStarted();
        interruptTwice();
        lineTwice();
        touchedBounds();
        looksChangeNothing();
        stepsAndTouchesOfManyCalls();
        ROWS.end();
    }

    // The states in which calls are looked at.

    private static void fresh(WideCore core) {
        core.stopped();
    }

    /** Wide, with nothing at 0, more touches than are kept, and an IRQ that I keeps out. */
    private static void busy(WideCore core) {
        for (int cell = 0; cell < 1024; cell += 16) {
            core.poke(cell, 0x5A480812 + cell, 4);
        }
        core.poke(0, 0x0B4B8B5A, 4);
        core.poke(4, 0xEAEA48DA, 4);
        core.poke(64, 0xEAEAEAEA, 4);
        vectors(core);
        core.set(6, 0xC5);
        int[] values = {0x1234, 0x2345, 0x3456, 0x4578, 0x5678, 0x67};
        for (int i = 0; i < values.length; i++) {
            core.set(i, values[i]);
        }
        core.run(6);
        core.line(true);
    }

    private static void called(WideCore core) {
        busy(core);
        core.set(6, 0x3B);
        core.interrupt();
    }

    private static void halted(WideCore core) {
        busy(core);
        core.poke(6, 2, 1);
        core.run(1);
        core.set(6, 0);
        core.interrupt();
    }

    private static void haltedUncalled(WideCore core) {
        core.poke(0, 2, 1);
        core.run(1);
    }

    private static void vectors(WideCore core) {
        core.poke(486, 0x0130, 2);
        core.poke(490, 0x0140, 2);
        core.poke(494, 0x0150, 2);
        core.poke(0x130, 0xEAEAEAEA, 4);
        core.poke(0x140, 0xEAEAEAEA, 4);
        core.poke(0x150, 0xEAEAEAEA, 4);
    }

    private static final Sight.Calls[] STATES = {
        CallsTest::fresh, CallsTest::busy, CallsTest::called, CallsTest::halted, CallsTest::haltedUncalled};

    private static void statesAreSo() {
        Map<String, Integer> busy = Sight.now(CallsTest::busy);
        ROWS.due("busy: touches", busy.get("touches"), 10);
        ROWS.due("busy: stopped", busy.get("stopped"), 0);
        ROWS.due("busy: the IRQ is kept out", Sight.later(CallsTest::busy).get("then 1: PC"), 7);
        ROWS.due("busy: the IRQ, let in", Sight.later(CallsTest::busy).get("started, then 1: PC"), 0x150);
        ROWS.due("called: the NMI", Sight.later(CallsTest::called).get("then 1: PC"), 0x140);
        ROWS.due("halted: stopped", Sight.now(CallsTest::halted).get("stopped"), 1);
        ROWS.due("halted: the NMI, let in", Sight.later(CallsTest::halted).get("started, then 1: PC"), 0x140);
        ROWS.due("halted, nothing called for", Sight.now(CallsTest::haltedUncalled).get("stopped"), 1);
    }

    private static void refused(String name, int answer, Call call) {
        for (int i = 0; i < STATES.length; i++) {
            changesNothing(name + " in state " + i, STATES[i], answer, call);
        }
    }

    private static void changesNothing(String name, Sight.Calls state, int answer, Call call) {
        changes(name, state, answer, call, Map.of());
        Sight.Calls both = core -> {
            state.on(core);
            call.on(core);
        };
        compare(name, Sight.later(both), Sight.later(state));
    }

    private static void changes(String name, Sight.Calls state, int answer, Call call, Map<String, Integer> changed) {
        WideCore core = new WideCore();
        state.on(core);
        ROWS.due(name, call.on(core), answer);
        Map<String, Integer> want = Sight.now(state);
        want.putAll(changed);
        compare(name, Sight.now(after -> {
            state.on(after);
            call.on(after);
        }), want);
    }

    /** Nothing but a step, interrupt and line changes what is called for. */
    private static void leavesWhatIsCalledFor(String name, Call call) {
        for (Sight.Calls state : STATES) {
            Map<String, Integer> want = Sight.later(state);
            Map<String, Integer> got = Sight.later(core -> {
                state.on(core);
                call.on(core);
            });
            for (String key : new String[] {"a NMI can be called for", "started, then 1: PC", "started, then 2: PC"}) {
                ROWS.due(name + ", then " + key, got.get(key), want.get(key));
            }
        }
    }

    private static void compare(String name, Map<String, Integer> got, Map<String, Integer> want) {
        ROWS.due(name + ": how much is seen", got.size(), want.size());
        for (Map.Entry<String, Integer> entry : want.entrySet()) {
            ROWS.due(name + ", then " + entry.getKey(), got.getOrDefault(entry.getKey(), LEAST), entry.getValue());
        }
    }

    private static int number(boolean answer) {
        return answer ? 1 : 0;
    }

    /** Promise 1: All bytes 0; all registers 0, but P is 52 (M, W, I) and S 255. It runs. */
    private static void newObject() {
        Map<String, Integer> seen = Sight.now(core -> { });
        for (Map.Entry<String, Integer> entry : seen.entrySet()) {
            String key = entry.getKey();
            int due = key.startsWith("touched ") ? -1 : key.equals("P") ? 52 : key.equals("S") ? 255 : 0;
            ROWS.due("new object: " + key, entry.getValue(), due);
        }
        WideCore core = new WideCore();
        core.poke(0, 0xEA, 1);
        ROWS.due("a new object runs", core.run(1), 1);
        ROWS.due("nothing is called for at first", core.register(8), 1);
        core.poke(1, 0xEA, 1);
        core.set(6, 0);
        core.run(1);
        ROWS.due("no IRQ is called for at first", core.register(8), 2);
        ROWS.due("no NMI is called for at first", core.interrupt(), true);
    }

    /** Promise 2: Byte cell becomes the lowest eight bits of b, the next ones those of the bits above, n in all. */
    private static void pokeTaken() {
        for (int n = 1; n <= 4; n++) {
            for (int cell : new int[] {0, 1, 510, 511, 512, 1023 - n, 1024 - n}) {
                poke(cell, 0x84838281, n);
            }
            for (int b : VALUES) {
                poke(300, b, n);
            }
        }
        leavesWhatIsCalledFor("poke(300, -1, 4)", core -> number(core.poke(300, -1, 4)));
    }

    private static void poke(int cell, int b, int n) {
        Map<String, Integer> changed = new LinkedHashMap<>();
        long above = b;
        for (int i = 0; i < n; i++) {
            changed.put("cell " + (cell + i), (int) Math.floorMod(above, 256L));
            above = Math.floorDiv(above, 256L);
        }
        String name = "poke(" + cell + ", " + b + ", " + n + ")";
        changes(name, CallsTest::fresh, 1, core -> number(core.poke(cell, b, n)), changed);
        changes(name, CallsTest::halted, 1, core -> number(core.poke(cell, b, n)), changed);
    }

    /** Promise 2: False if n is not so, or not all of these cells are there. */
    private static void pokeRefused() {
        for (int n : new int[] {LEAST, LEAST + 1, -4, -1, 0, 5, 6, 8, GREATEST - 1, GREATEST}) {
            for (int cell : new int[] {0, 512, 1020, 1023}) {
                pokeRefused(cell, n);
            }
        }
        for (int n = 1; n <= 4; n++) {
            for (int cell : new int[] {LEAST, LEAST + 1, -1024, -4, -3, -2, -1, 1025 - n, 1024, 1025,
                GREATEST - 4, GREATEST - 3, GREATEST - 2, GREATEST - 1, GREATEST}) {
                pokeRefused(cell, n);
            }
        }
        for (int n : new int[] {LEAST, 0, 5, GREATEST}) {
            for (int cell : new int[] {LEAST, -1, 1024, GREATEST}) {
                pokeRefused(cell, n);
            }
        }
    }

    private static void pokeRefused(int cell, int n) {
        refused("poke(" + cell + ", -1, " + n + ")", 0, core -> number(core.poke(cell, 0xA5C3967B, n)));
    }

    /** Promise 3: Byte cell; NONE if there is none. */
    private static void peekBounds() {
        WideCore core = new WideCore();
        core.poke(0, 0x80, 1);
        core.poke(1023, 0xFF, 1);
        ROWS.due("peek(0)", core.peek(0), 128);
        ROWS.due("peek(1023)", core.peek(1023), 255);
        for (int cell : new int[] {LEAST, LEAST + 1, -1024, -1, 1024, 1025, 2047, 65536, GREATEST - 1, GREATEST}) {
            refused("peek(" + cell + ")", WideCore.NONE, other -> other.peek(cell));
        }
    }

    /** Promise 4: The machine is started: PB and PC become those, it runs. */
    private static void startTaken() {
        for (int bank : new int[] {0, 1, 254, 255}) {
            for (int address : new int[] {0, 1, 511, 512, 65534, 65535}) {
                Map<String, Integer> changed = Map.of("PB", bank, "PC", address, "stopped", 0);
                for (Sight.Calls state : STATES) {
                    changes("start(" + bank + ", " + address + ")", state, 1,
                            core -> number(core.start(bank, address)), changed);
                }
                leavesWhatIsCalledFor("start(" + bank + ", " + address + ")",
                        core -> number(core.start(bank, address)));
            }
        }
    }

    /** Promise 4: False if bank is not 0 .. 255 or address not 0 .. 65535. */
    private static void startRefused() {
        int[] wrongBanks = {LEAST, -256, -1, 256, 257, 65536, GREATEST};
        int[] wrongAddresses = {LEAST, -65536, -1, 65536, 65537, GREATEST};
        for (int bank : wrongBanks) {
            for (int address : new int[] {0, 1, 65535, 65536, -1}) {
                startRefused(bank, address);
            }
        }
        for (int address : wrongAddresses) {
            for (int bank : new int[] {0, 1, 255, 256, -1}) {
                startRefused(bank, address);
            }
        }
    }

    private static void startRefused(int bank, int address) {
        refused("start(" + bank + ", " + address + ")", 0, core -> number(core.start(bank, address)));
    }

    /** Promise 5: A register gets a value, cut to its bits (X and Y to eight if narrow): true. */
    private static void setTaken() {
        String[] names = {"C", "X", "Y", "S", "D", "DB"};
        for (int what = 0; what < names.length; what++) {
            boolean index = what == 1 || what == 2;
            for (int value : VALUES) {
                set(names[what], what, value, what == 5 ? 256 : 65536, CallsTest::busy);
                set(names[what], what, value, what == 5 || index ? 256 : 65536, CallsTest::called);
                set(names[what], what, value, what == 5 ? 256 : 65536, CallsTest::halted);
            }
            int register = what;
            leavesWhatIsCalledFor("set(" + what + ", 0x100)", core -> number(core.set(register, 0x100)));
        }
    }

    private static void set(String register, int what, int value, int beyond, Sight.Calls state) {
        changes("set(" + what + ", " + value + ")", state, 1, core -> number(core.set(what, value)),
                Map.of(register, Math.floorMod(value, beyond)));
    }

    /** Promise 5: P (as SEP and REP would): when W becomes 1 the upper bytes of X and Y become 0. */
    private static void setPTaken() {
        for (int value : VALUES) {
            setP(value);
        }
        for (int value = 0; value < 256; value++) {
            setP(value);
        }
        leavesWhatIsCalledFor("set(6, 255)", core -> number(core.set(6, 255)));
        leavesWhatIsCalledFor("set(6, 0)", core -> number(core.set(6, 0)));
    }

    private static void setP(int value) {
        Map<String, Integer> changed = new LinkedHashMap<>();
        int p = Math.floorMod(value, 256);
        changed.put("P", p);
        if (p / 16 % 2 == 1) {
            changed.put("X", 0x45);
            changed.put("Y", 0x56);
        }
        changes("set(6, " + value + ")", CallsTest::busy, 1, core -> number(core.set(6, value)), changed);
    }

    /** Promise 5: False if there is no such one. */
    private static void setRefused() {
        for (int what : new int[] {LEAST, -256, -2, -1, 7, 8, 9, 256, GREATEST}) {
            for (int value : new int[] {LEAST, -1, 0, 1, GREATEST}) {
                refused("set(" + what + ", " + value + ")", 0, core -> number(core.set(what, value)));
            }
        }
    }

    /** Promise 6: Register what as in set, 7 PB, 8 PC; NONE if there is no such one. */
    private static void registerBounds() {
        WideCore core = new WideCore();
        core.set(6, 0xC5);
        int[] values = {0x8234, 0x9345, 0xA456, 0xB578, 0xC678, 0xD7};
        for (int i = 0; i < values.length; i++) {
            core.set(i, values[i]);
        }
        core.start(0xE7, 0xF890);
        int[] due = {0x8234, 0x9345, 0xA456, 0xB578, 0xC678, 0xD7, 0xC5, 0xE7, 0xF890};
        for (int i = 0; i < due.length; i++) {
            ROWS.due("register(" + i + ")", core.register(i), due[i]);
        }
        for (int what : new int[] {LEAST, -256, -2, -1, 9, 10, 256, GREATEST}) {
            refused("register(" + what + ")", WideCore.NONE, other -> other.register(what));
        }
    }

    /** Promise 7: Makes up to n steps. */
    private static void runTaken() {
        refused("run(0)", 0, core -> core.run(0));
        for (int n = 0; n <= 60; n++) {
            int steps = n;
            changes("run(" + n + ")", core -> core.poke(0, 0xFE80, 2), n, core -> core.run(steps), Map.of("steps", n));
        }
    }

    /** Promise 7: until it stops: how many (the one that stops it counts). Promise 8: Whether it has stopped. */
    private static void runToTheStop() {
        for (int at : new int[] {1, 2, 59, 60, 61}) {
            for (int n : new int[] {0, 1, 2, 58, 59, 60}) {
                Sight.Calls state = core -> {
                    for (int i = 0; i < at - 1; i++) {
                        core.poke(i, 0xEA, 1);
                    }
                    core.poke(at - 1, 0x02, 1);
                };
                int made = Math.min(n, at);
                changes("run(" + n + "), the stop being step " + at, state, made, core -> core.run(n),
                        Map.of("steps", made, "PC", made, "stopped", number(n >= at)));
            }
        }
    }

    /** Promise 7: Nothing, -1, if n is not 0 .. 60. */
    private static void runRefused() {
        for (int n : new int[] {LEAST, LEAST + 1, -60, -2, -1, 61, 62, 120, 256, 65536, GREATEST - 1, GREATEST}) {
            refused("run(" + n + ")", -1, core -> core.run(n));
        }
    }

    /** Terms: the machine STOPS and makes no steps until it is started. */
    private static void runWhenStopped() {
        for (int n : new int[] {0, 1, 2, 59, 60}) {
            changesNothing("stopped, run(" + n + ")", CallsTest::halted, 0, core -> core.run(n));
            changesNothing("stopped, run(" + n + ")", CallsTest::haltedUncalled, 0, core -> core.run(n));
        }
    }

    private static void untilStarted() {
        WideCore core = new WideCore();
        core.poke(0, 0xEA02, 2);
        core.run(1);
        core.poke(0, 0xEA, 1);
        core.poke(1, 0xEA, 1);
        stillStopped("poke", core);
        for (int what = 0; what <= 6; what++) {
            core.set(what, 0);
        }
        stillStopped("set", core);
        core.interrupt();
        stillStopped("interrupt", core);
        core.line(true);
        stillStopped("line", core);
        core.line(false);
        core.start(0, 65536);
        core.start(256, 0);
        stillStopped("a refused start", core);
        ROWS.due("start", core.start(0, 1), true);
        ROWS.due("stopped after start", core.stopped(), false);
        ROWS.due("run after start", core.run(1), 1);
    }

    private static void stillStopped(String after, WideCore core) {
        ROWS.due("run after " + after, core.run(1), 0);
        ROWS.due("stopped after " + after, core.stopped(), true);
        ROWS.due("steps after " + after, core.steps(), 1);
    }

    /** Promise 9: A NMI is called for; false if one is already. */
    private static void interruptTwice() {
        for (Sight.Calls state : STATES) {
            WideCore core = new WideCore();
            state.on(core);
            core.interrupt();
            ROWS.due("interrupt twice", core.interrupt(), false);
            ROWS.due("interrupt thrice", core.interrupt(), false);
        }
        for (Sight.Calls state : new Sight.Calls[] {CallsTest::fresh, CallsTest::busy, CallsTest::haltedUncalled}) {
            changes("interrupt()", state, 1, core -> number(core.interrupt()), Map.of());
        }
        changesNothing("interrupt() again", CallsTest::called, 0, core -> number(core.interrupt()));
        changesNothing("interrupt() again", CallsTest::halted, 0, core -> number(core.interrupt()));
    }

    /** Promise 10: An IRQ is called for, or not any more. */
    private static void lineTwice() {
        changesNothing("line(true) again", CallsTest::busy, 0, core -> line(core, true));
        changesNothing("line(true) again", CallsTest::called, 0, core -> line(core, true));
        changesNothing("line(true) again", CallsTest::halted, 0, core -> line(core, true));
        changesNothing("line(false) at first", CallsTest::fresh, 0, core -> line(core, false));
        changesNothing("line(true), line(false)", CallsTest::fresh, 0, core -> line(core, true) + line(core, false));
        changesNothing("line(false), line(true)", CallsTest::busy, 0, core -> line(core, false) + line(core, true));
        for (Sight.Calls state : STATES) {
            changes("line(true)", state, 0, core -> line(core, true), Map.of());
            changes("line(false)", state, 0, core -> line(core, false), Map.of());
        }
    }

    private static int line(WideCore core, boolean on) {
        core.line(on);
        return 0;
    }

    /** Promise 12: the k-th latest such byte (k = 0 is the latest, at most 7); NONE if there is none. */
    private static void touchedBounds() {
        for (int pulls : new int[] {0, 1, 2, 6, 7, 8, 9, 15, 16, 17, 30}) {
            for (int k : new int[] {LEAST, LEAST + 1, -8, -1, 0, 1, 5, 6, 7, 8, 9, 15, 16, 29, 30, GREATEST - 1, GREATEST}) {
                WideCore core = new WideCore();
                core.poke(0, 0xFD8068, 3);
                core.run(2 * pulls);
                boolean there = k >= 0 && k <= 7 && k < pulls;
                ROWS.due("touched(" + k + ") of " + pulls, core.touched(k), there ? 255 + pulls - k : -1);
            }
        }
        for (int k : new int[] {LEAST, -1, 8, 9, GREATEST}) {
            refused("touched(" + k + ")", WideCore.NONE, core -> core.touched(k));
        }
        changesNothing("touched(0) of none", CallsTest::fresh, WideCore.NONE, core -> core.touched(0));
    }

    private static void looksChangeNothing() {
        for (Sight.Calls state : STATES) {
            changesNothing("all that looks", state, 0, core -> {
                for (int i = 0; i < 12; i++) {
                    core.register(i);
                    core.touched(i);
                    core.peek(100 * i);
                }
                core.touches();
                core.steps();
                core.stopped();
                return 0;
            });
        }
    }

    /** An object is used for at most 512 calls; promises 11 and 13 hold up to the last one. */
    private static void stepsAndTouchesOfManyCalls() {
        WideCore core = new WideCore();
        core.poke(0, 0x000154, 3);
        core.set(6, 0);
        core.set(0, 65535);
        core.set(1, 128);
        core.set(2, 128);
        for (int call = 6; call <= 509; call++) {
            core.run(60);
        }
        ROWS.due("steps of 504 runs", core.steps(), 504 * 60);
        ROWS.due("touches of 504 runs", core.touches(), 504 * 60 * 2);
        ROWS.due("touched, the 512th call", core.touched(0), 1024 + 512 + (127 + 504 * 60) % 512);
    }
}
