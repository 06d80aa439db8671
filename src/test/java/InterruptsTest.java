/** Promises 9 and 10: interrupt and line. */
public final class InterruptsTest {
    private static final Rows ROWS = new Rows();

    public static void main(String[] args) {
        nmi();
        nmiOnce();
        irq();
        irqStaysCalled();
        lineOff();
        nmiFirst();
        whenStopped();
        betweenMovedBytes();
        flagsOfInterrupts();
        stackWraps();
        pushedPlaces();
        whereTheyLead();
        pushesComeFirst();
        breakByte();
        letInByOperations();
        insteadOfAStop();
        countedByRun();
        ROWS.end();
    }

    /** The handlers of BRK, NMI and IRQ are at 64, 80 and 96; each is RTI. */
    private static WideCore made() {
        WideCore core = new WideCore();
        core.poke(486, 64, 2);
        core.poke(490, 80, 2);
        core.poke(494, 96, 2);
        core.poke(64, 0x40, 1);
        core.poke(80, 0x40, 1);
        core.poke(96, 0x40, 1);
        for (int i = 0; i < 8; i++) {
            core.poke(528 + i, 0xEA, 1);
        }
        core.start(5, 0x1210);
        return core;
    }

    private static void pushed(WideCore core, int p) {
        ROWS.due("pushed PB", core.peek(255), 5);
        ROWS.due("pushed PC, upper", core.peek(254), 0x12);
        ROWS.due("pushed PC, lower", core.peek(253), 0x10);
        ROWS.due("pushed P", core.peek(252), p);
        ROWS.due("S", core.register(3), 251);
        ROWS.due("PB", core.register(7), 0);
        int[] due = {-1, -1, 1024 + 252, 1024 + 253, 1024 + 254, 1024 + 255};
        for (int k = 2; k < due.length; k++) {
            ROWS.due("touched " + k, core.touched(k), due[k]);
        }
        ROWS.due("touches", core.touches(), 6);
    }

    private static void nmi() {
        WideCore core = made();
        core.set(6, 0xFF);
        ROWS.due("interrupt", core.interrupt(), true);
        ROWS.due("no step yet", core.steps(), 0);
        ROWS.due("PC yet", core.register(8), 0x1210);
        ROWS.due("run", core.run(1), 1);
        ROWS.due("NMI's PC", core.register(8), 80);
        ROWS.due("P", core.register(6), 0xF7);
        ROWS.due("steps", core.steps(), 1);
        ROWS.due("the word there", core.touched(0), 491);
        ROWS.due("the word there", core.touched(1), 490);
        pushed(core, 0xFF);
        ROWS.due("run RTI", core.run(1), 1);
        ROWS.due("back at PC", core.register(8), 0x1210);
        ROWS.due("back at PB", core.register(7), 5);
        ROWS.due("back at P", core.register(6), 0xFF);
    }

    private static void nmiOnce() {
        WideCore core = made();
        ROWS.due("interrupt", core.interrupt(), true);
        ROWS.due("interrupt again", core.interrupt(), false);
        core.run(0);
        ROWS.due("interrupt after run 0", core.interrupt(), false);
        core.run(2);
        ROWS.due("PC after RTI", core.register(8), 0x1210);
        core.run(1);
        ROWS.due("one NMI only", core.register(8), 0x1211);
        ROWS.due("interrupt anew", core.interrupt(), true);
        core.run(1);
        ROWS.due("NMI anew", core.register(8), 80);
    }

    private static void irq() {
        WideCore core = made();
        core.line(true);
        core.run(1);
        ROWS.due("not while I is 1", core.register(8), 0x1211);
        core.start(5, 0x1210);
        core.set(6, 0x48);
        ROWS.due("run", core.run(1), 1);
        ROWS.due("IRQ's PC", core.register(8), 96);
        ROWS.due("P", core.register(6), 0x44);
        ROWS.due("the word there", core.touched(0), 495);
        ROWS.due("the word there", core.touched(1), 494);
        ROWS.due("steps", core.steps(), 2);
        pushed(core, 0x48);
    }

    private static void irqStaysCalled() {
        WideCore core = made();
        core.set(6, 0);
        core.line(true);
        core.line(true);
        for (int i = 0; i < 3; i++) {
            core.run(1);
            ROWS.due("IRQ again", core.register(8), 96);
            core.run(1);
            ROWS.due("back", core.register(8), 0x1210);
        }
        core.line(false);
        core.run(1);
        ROWS.due("on its way", core.register(8), 0x1211);
    }

    private static void lineOff() {
        WideCore core = made();
        core.set(6, 0);
        core.line(true);
        core.line(false);
        core.run(1);
        ROWS.due("not called any more", core.register(8), 0x1211);
        core.line(false);
        core.run(1);
        ROWS.due("nor now", core.register(8), 0x1212);
    }

    private static void nmiFirst() {
        WideCore core = made();
        core.set(6, 0);
        core.line(true);
        core.interrupt();
        core.run(1);
        ROWS.due("NMI first", core.register(8), 80);
        core.run(1);
        ROWS.due("RTI, for I is 1", core.register(8), 0x1210);
        core.run(1);
        ROWS.due("then IRQ", core.register(8), 96);
        core.interrupt();
        core.run(1);
        ROWS.due("NMI inside", core.register(8), 80);
        ROWS.due("S", core.register(3), 247);
    }

    private static void whenStopped() {
        WideCore core = made();
        core.poke(528, 0x02, 1);
        core.run(1);
        core.set(6, 0);
        core.line(true);
        ROWS.due("interrupt when stopped", core.interrupt(), true);
        ROWS.due("run when stopped", core.run(5), 0);
        ROWS.due("still stopped", core.stopped(), true);
        ROWS.due("interrupt still called for", core.interrupt(), false);
        core.start(5, 0x1211);
        core.run(1);
        ROWS.due("NMI after start", core.register(8), 80);
    }

    private static void betweenMovedBytes() {
        WideCore core = made();
        core.poke(528, 0x010154, 3);
        core.poke(600, 0x030201, 3);
        core.set(6, 0);
        core.set(0, 2);
        core.set(1, 88);
        core.set(2, 120);
        core.run(1);
        core.interrupt();
        core.run(1);
        ROWS.due("the move's PC", core.peek(253), 0x10);
        ROWS.due("run", core.run(3), 3);
        ROWS.due("PC behind", core.register(8), 0x1213);
        for (int i = 0; i < 3; i++) {
            ROWS.due("moved " + i, core.peek(632 + i), i + 1);
        }
    }

    /** An interrupt of each kind from bank 05 and the address pc, with the stack at s and the handler at to. */
    private static void interruptRows(int p, int pc, int s, int to) {
        interruptRow("nmi", "", 490, p, pc, s, to);
        interruptRow("nmi irq", "", 490, p, pc, s, to);
        interruptRow("", "00 77", 486, p, pc, s, to);
        if (p / 4 % 2 == 0) {
            interruptRow("irq", "", 494, p, pc, s, to);
        } else {
            interruptRow("irq", "00 77", 486, p, pc, s, to);
        }
    }

    private static void interruptRow(String called, String code, int vector, int p, int pc, int s, int to) {
        int pushedPc = code.isEmpty() ? pc : (pc + 2) % 65536;
        int[] bytes = {5, pushedPc / 256, pushedPc % 256, p};
        StringBuilder after = new StringBuilder();
        StringBuilder touches = new StringBuilder(" t=");
        for (int i = 0; i < bytes.length; i++) {
            int cell = Math.floorMod(s - i, 65536) % 512;
            after.append(String.format(" m%03X=%02X", cell, bytes[i]));
            touches.append(String.format("%03X!,", cell));
        }
        String setup = String.format("%s p=%X pb=05 pc=%X s=%X db=07 c=1234 x=56 y=78 d=9ABC m%03X=%02X%02X",
                called, p, pc, s, vector, to % 256, to / 256);
        int flags = p - (p / 8 % 2) * 8 + (1 - p / 4 % 2) * 4;
        ROWS.row("interrupt from " + vector, setup, code, String.format("%s%s%03X,%03X p=%X pb=0 pc=%X s=%X", after, touches, vector,
                vector + 1, flags, to, Math.floorMod(s - 4, 65536)));
    }

    /** P is pushed, I becomes 1, T 0; an IRQ is let in if I is 0, a NMI whatever I is. */
    private static void flagsOfInterrupts() {
        for (int p = 0; p < 256; p++) {
            interruptRows(p, 0x1210, 0x0150, 0x1234);
            if (p / 4 % 2 == 1) {
                ROWS.row("no IRQ while I is 1", "irq pb=05 pc=1210 p=" + Integer.toHexString(p), "EA", "");
            }
        }
    }

    private static void stackWraps() {
        for (int s : new int[] {0x0000, 0x0001, 0x0002, 0x0003, 0x0004, 0x0200, 0x0203, 0x7FFF, 0x8000, 0xFF80}) {
            interruptRows(0x30, 0x1210, s, 0x1234);
            interruptRows(0x34, 0x1210, s, 0x1234);
        }
    }

    private static void pushedPlaces() {
        for (int pc : new int[] {0x0000, 0x0001, 0x00FE, 0x00FF, 0x0100, 0x7FFF, 0x8000, 0xFFFD, 0xFFFE, 0xFFFF}) {
            interruptRows(0x30, pc, 0x0150, 0x1234);
            interruptRows(0x34, pc, 0x0150, 0x1234);
        }
    }

    private static void whereTheyLead() {
        for (int to : new int[] {0x0000, 0x0001, 0x00FF, 0x0100, 0x7FFF, 0x8000, 0xFF00, 0xFFFE, 0xFFFF}) {
            interruptRows(0x30, 0x1210, 0x0150, to);
            interruptRows(0x34, 0x1210, 0x0150, to);
        }
    }

    /** PB, PC, P are pushed, then PC is the word there: what was pushed, if the stack is there. */
    private static void pushesComeFirst() {
        ROWS.row("NMI", "nmi pb=05 pc=1210 s=01EC m1EA=7777", "",
                "m1EC=05 m1EB=12 m1EA=10 m1E9=34 s=01E8 pb=0 pc=1210 t=1EC!,1EB!,1EA!,1E9!,1EA,1EB");
        ROWS.row("IRQ", "irq p=30 pb=05 pc=1210 s=01F0 m1EE=7777", "",
                "m1F0=05 m1EF=12 m1EE=10 m1ED=30 s=01EC p=34 pb=0 pc=1210 t=1F0!,1EF!,1EE!,1ED!,1EE,1EF");
        ROWS.row("BRK", "pb=05 pc=1210 s=01E8 m1E6=7777", "00 77",
                "m1E8=05 m1E7=12 m1E6=12 m1E5=34 s=01E4 pb=0 pc=1212 t=1E8!,1E7!,1E6!,1E5!,1E6,1E7");
    }

    /** BRK's operand is a byte that means nothing. */
    private static void breakByte() {
        for (int b = 0; b < 256; b++) {
            ROWS.row("BRK", "pb=05 pc=1210 s=0150 m1E6=3412", String.format("00 %02X", b),
                    "m150=05 m14F=12 m14E=12 m14D=34 s=014C pb=0 pc=1234 t=150!,14F!,14E!,14D!,1E6,1E7");
        }
    }

    /** Before a step: so the operation that makes I 0 is followed by the interrupt, the one that makes it 1 is not. */
    private static void letInByOperations() {
        String irq = "irq pb=05 pc=1210 s=0150 m1EE=3412 ";
        ROWS.row("58", irq + "p=34", "58",
                "n=2 m150=05 m14F=12 m14E=11 m14D=30 s=014C pb=0 pc=1234 t=150!,14F!,14E!,14D!,1EE,1EF");
        ROWS.row("REP", irq + "p=34", "C2 04",
                "n=2 m150=05 m14F=12 m14E=12 m14D=30 s=014C pb=0 pc=1234 t=150!,14F!,14E!,14D!,1EE,1EF");
        ROWS.row("PLP", irq + "p=34 m151=30", "28",
                "n=2 m151=05 m150=12 m14F=11 m14E=30 s=014D p=34 pb=0 pc=1234 t=151,151!,150!,14F!,14E!,1EE,1EF");
        ROWS.row("RTI", irq + "p=34 m151=30563407", "40", "n=2 m154=07 m153=34 m152=56 m151=30 s=0150 p=34 pb=0 "
                + "pc=1234 t=151,152,153,154,154!,153!,152!,151!,1EE,1EF");
        ROWS.row("REP of others", irq + "p=3C", "C2 0B EA", "n=2 p=34");
    }

    private static void insteadOfAStop() {
        WideCore core = made();
        core.poke(528, 0x02, 1);
        core.interrupt();
        ROWS.due("run to the stop", core.run(60), 3);
        ROWS.due("stopped", core.stopped(), true);
        ROWS.due("PC", core.register(8), 0x1211);
        ROWS.due("S", core.register(3), 255);
        ROWS.due("touches", core.touches(), 10);
    }

    /** That is a step too. */
    private static void countedByRun() {
        WideCore core = made();
        core.set(6, 0);
        core.line(true);
        core.interrupt();
        ROWS.due("run", core.run(60), 60);
        ROWS.due("steps", core.steps(), 60);
        ROWS.due("PC, half of the steps being interrupts", core.register(8), 0x1210);
        ROWS.due("touches", core.touches(), 60 / 2 * (6 + 4));
    }
}
