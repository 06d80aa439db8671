/** Promises 9 and 10: interrupt and line. */
public final class InterruptsTest {
    private static final Rows ROWS = new Rows();

    public static void main(String[] args) {
        nmi();
        nmiOnce();
        irq();
        irqStaysCalled();
        lineOff();
        nmiFirst();
        whenStopped();
        betweenMovedBytes();
        ROWS.end();
    }

    /** The handlers of BRK, NMI and IRQ are at 64, 80 and 96; each is RTI. */
    private static WideCore made() {
        WideCore core = new WideCore();
        core.poke(486, 64, 2);
        core.poke(490, 80, 2);
        core.poke(494, 96, 2);
        core.poke(64, 0x40, 1);
        core.poke(80, 0x40, 1);
        core.poke(96, 0x40, 1);
        for (int i = 0; i < 8; i++) {
            core.poke(528 + i, 0xEA, 1);
        }
        core.start(5, 0x1210);
        return core;
    }

    private static void pushed(WideCore core, int p) {
        ROWS.due("pushed PB", core.peek(255), 5);
        ROWS.due("pushed PC, upper", core.peek(254), 0x12);
        ROWS.due("pushed PC, lower", core.peek(253), 0x10);
        ROWS.due("pushed P", core.peek(252), p);
        ROWS.due("S", core.register(3), 251);
        ROWS.due("PB", core.register(7), 0);
        int[] due = {-1, -1, 1024 + 252, 1024 + 253, 1024 + 254, 1024 + 255};
        for (int k = 2; k < due.length; k++) {
            ROWS.due("touched " + k, core.touched(k), due[k]);
        }
        ROWS.due("touches", core.touches(), 6);
    }

    private static void nmi() {
        WideCore core = made();
        core.set(6, 0xFF);
        ROWS.due("interrupt", core.interrupt(), true);
        ROWS.due("no step yet", core.steps(), 0);
        ROWS.due("PC yet", core.register(8), 0x1210);
        ROWS.due("run", core.run(1), 1);
        ROWS.due("NMI's PC", core.register(8), 80);
        ROWS.due("P", core.register(6), 0xF7);
        ROWS.due("steps", core.steps(), 1);
        ROWS.due("the word there", core.touched(0), 491);
        ROWS.due("the word there", core.touched(1), 490);
        pushed(core, 0xFF);
        ROWS.due("run RTI", core.run(1), 1);
        ROWS.due("back at PC", core.register(8), 0x1210);
        ROWS.due("back at PB", core.register(7), 5);
        ROWS.due("back at P", core.register(6), 0xFF);
    }

    private static void nmiOnce() {
        WideCore core = made();
        ROWS.due("interrupt", core.interrupt(), true);
        ROWS.due("interrupt again", core.interrupt(), false);
        core.run(0);
        ROWS.due("interrupt after run 0", core.interrupt(), false);
        core.run(2);
        ROWS.due("PC after RTI", core.register(8), 0x1210);
        core.run(1);
        ROWS.due("one NMI only", core.register(8), 0x1211);
        ROWS.due("interrupt anew", core.interrupt(), true);
        core.run(1);
        ROWS.due("NMI anew", core.register(8), 80);
    }

    private static void irq() {
        WideCore core = made();
        core.line(true);
        core.run(1);
        ROWS.due("not while I is 1", core.register(8), 0x1211);
        core.start(5, 0x1210);
        core.set(6, 0x48);
        ROWS.due("run", core.run(1), 1);
        ROWS.due("IRQ's PC", core.register(8), 96);
        ROWS.due("P", core.register(6), 0x44);
        ROWS.due("the word there", core.touched(0), 495);
        ROWS.due("the word there", core.touched(1), 494);
        ROWS.due("steps", core.steps(), 2);
        pushed(core, 0x48);
    }

    private static void irqStaysCalled() {
        WideCore core = made();
        core.set(6, 0);
        core.line(true);
        core.line(true);
        for (int i = 0; i < 3; i++) {
            core.run(1);
            ROWS.due("IRQ again", core.register(8), 96);
            core.run(1);
            ROWS.due("back", core.register(8), 0x1210);
        }
        core.line(false);
        core.run(1);
        ROWS.due("on its way", core.register(8), 0x1211);
    }

    private static void lineOff() {
        WideCore core = made();
        core.set(6, 0);
        core.line(true);
        core.line(false);
        core.run(1);
        ROWS.due("not called any more", core.register(8), 0x1211);
        core.line(false);
        core.run(1);
        ROWS.due("nor now", core.register(8), 0x1212);
    }

    private static void nmiFirst() {
        WideCore core = made();
        core.set(6, 0);
        core.line(true);
        core.interrupt();
        core.run(1);
        ROWS.due("NMI first", core.register(8), 80);
        core.run(1);
        ROWS.due("RTI, for I is 1", core.register(8), 0x1210);
        core.run(1);
        ROWS.due("then IRQ", core.register(8), 96);
        core.interrupt();
        core.run(1);
        ROWS.due("NMI inside", core.register(8), 80);
        ROWS.due("S", core.register(3), 247);
    }

    private static void whenStopped() {
        WideCore core = made();
        core.poke(528, 0x02, 1);
        core.run(1);
        core.set(6, 0);
        core.line(true);
        ROWS.due("interrupt when stopped", core.interrupt(), true);
        ROWS.due("run when stopped", core.run(5), 0);
        ROWS.due("still stopped", core.stopped(), true);
        ROWS.due("interrupt still called for", core.interrupt(), false);
        core.start(5, 0x1211);
        core.run(1);
        ROWS.due("NMI after start", core.register(8), 80);
    }

    private static void betweenMovedBytes() {
        WideCore core = made();
        core.poke(528, 0x010154, 3);
        core.poke(600, 0x030201, 3);
        core.set(6, 0);
        core.set(0, 2);
        core.set(1, 88);
        core.set(2, 120);
        core.run(1);
        core.interrupt();
        core.run(1);
        ROWS.due("the move's PC", core.peek(253), 0x10);
        ROWS.due("run", core.run(3), 3);
        ROWS.due("PC behind", core.register(8), 0x1213);
        for (int i = 0; i < 3; i++) {
            ROWS.due("moved " + i, core.peek(632 + i), i + 1);
        }
    }
}
