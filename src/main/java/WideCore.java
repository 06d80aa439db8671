/** A processor of eight or sixteen bits over a memory of 1024 bytes; ../shared/DOC.md has its promises. */
public final class WideCore {
    public static final int NONE = -1;

    private static final int MOST_STEPS = 60;
    private static final int MOST_POKED = 4;

    private final Bus bus;
    private final Registers registers;
    private final Processor processor;

    public WideCore() {
        bus = new Bus();
        registers = new Registers();
        processor = new Processor(bus, registers);
    }

    public boolean poke(int cell, int b, int n) {
        // The bound is taken from the size so that a huge cell can't wrap past it.
        if (n < 1 || n > MOST_POKED || cell < 0 || cell > Bus.SIZE - n) {
            return false;
        }
        for (int i = 0; i < n; i++) {
            bus.cells[cell + i] = (byte) (b >> (8 * i));
        }
        return true;
    }

    public int peek(int cell) {
        return cell < 0 || cell >= Bus.SIZE ? NONE : bus.cells[cell] & 0xFF;
    }

    public boolean start(int bank, int address) {
        if (bank < 0 || bank > 0xFF || address < 0 || address > 0xFFFF) {
            return false;
        }
        registers.programBank = bank;
        registers.pc = address;
        processor.halted = false;
        return true;
    }

    public boolean set(int what, int value) {
        switch (what) {
            case 0 -> registers.c = value & 0xFFFF;
            case 1 -> registers.x = value & registers.indexMask();
            case 2 -> registers.y = value & registers.indexMask();
            case 3 -> registers.s = value & 0xFFFF;
            case 4 -> registers.d = value & 0xFFFF;
            case 5 -> registers.dataBank = value & 0xFF;
            case 6 -> registers.replaceP(value & 0xFF);
            default -> {
                return false;
            }
        }
        return true;
    }

    public int register(int what) {
        return switch (what) {
            case 0 -> registers.c;
            case 1 -> registers.x;
            case 2 -> registers.y;
            case 3 -> registers.s;
            case 4 -> registers.d;
            case 5 -> registers.dataBank;
            case 6 -> registers.p;
            case 7 -> registers.programBank;
            case 8 -> registers.pc;
            default -> NONE;
        };
    }

    public int run(int n) {
        if (n < 0 || n > MOST_STEPS) {
            return NONE;
        }
        int made = 0;
        while (made < n && !processor.halted) {
            processor.makeStep();
            made++;
        }
        return made;
    }

    public boolean stopped() {
        return processor.halted;
    }

    public boolean interrupt() {
        if (processor.nmiCalled) {
            return false;
        }
        processor.nmiCalled = true;
        return true;
    }

    public void line(boolean on) {
        processor.irqCalled = on;
    }

    public int touches() {
        return bus.touchCount;
    }

    public int touched(int k) {
        return k < 0 || k >= Bus.KEPT || k >= bus.touchCount ? NONE : bus.latestTouch(k);
    }

    public int steps() {
        return processor.stepCount;
    }

    /**
     * The memory, and which of its cells were touched last. A place is a long number; places of the
     * direct page and the stack carry a mark, for their words never leave bank 0.
     */
    private static final class Bus {
        static final int SIZE = 1024;
        /** A power of two, so that the ring of touches needs a mask alone. */
        static final int KEPT = 8;

        private static final int WRITTEN = 1024;
        private static final int STAYS_IN_BANK_0 = 1 << 24;

        final byte[] cells = new byte[SIZE];
        final int[] latest = new int[KEPT];
        int touchCount;

        static int longPlace(int number) {
            return number & 0xFFFFFF;
        }

        static int bank0Place(int address) {
            return STAYS_IN_BANK_0 | (address & 0xFFFF);
        }

        private static int placeAfter(int place) {
            return (place & STAYS_IN_BANK_0) != 0 ? bank0Place(place + 1) : longPlace(place + 1);
        }

        /** Bit 16 of a place is the lowest one of its bank, and just that one picks the half of memory. */
        private static int cellOf(int place) {
            return ((place >> 7) & 512) | (place & 511);
        }

        /** Operations and operands are read by this, since they don't count as touches. */
        int programByte(int bank, int address) {
            return cells[512 * (bank & 1) + (address & 511)] & 0xFF;
        }

        int readByte(int place) {
            int cell = cellOf(place);
            latest[touchCount & (KEPT - 1)] = cell;
            touchCount++;
            return cells[cell] & 0xFF;
        }

        void writeByte(int place, int b) {
            int cell = cellOf(place);
            latest[touchCount & (KEPT - 1)] = cell + WRITTEN;
            touchCount++;
            cells[cell] = (byte) b;
        }

        int readWord(int place) {
            int low = readByte(place);
            return low | (readByte(placeAfter(place)) << 8);
        }

        int readLong(int place) {
            int middlePlace = placeAfter(place);
            int low = readByte(place);
            int middle = readByte(middlePlace);
            return low | (middle << 8) | (readByte(placeAfter(middlePlace)) << 16);
        }

        int readValue(int place, boolean wide) {
            return wide ? readWord(place) : readByte(place);
        }

        void writeValue(int place, int value, boolean wide) {
            writeByte(place, value);
            if (wide) {
                writeByte(placeAfter(place), value >> 8);
            }
        }

        int latestTouch(int k) {
            return latest[(touchCount - 1 - k) & (KEPT - 1)];
        }
    }

    /** The registers and their widths. The upper bytes of x and y are 0 whenever they are narrow. */
    private static final class Registers {
        static final int N = 128;
        static final int V = 64;
        static final int M = 32;
        static final int W = 16;
        static final int T = 8;
        static final int I = 4;
        static final int Z = 2;
        static final int K = 1;

        int c;
        int x;
        int y;
        int s = 255;
        int d;
        int dataBank;
        int programBank;
        int pc;
        int p = M | W | I;

        static int maskOf(boolean wide) {
            return wide ? 0xFFFF : 0xFF;
        }

        static int signOf(boolean wide) {
            return wide ? 0x8000 : 0x80;
        }

        boolean has(int flag) {
            return (p & flag) != 0;
        }

        void putFlag(int flag, boolean on) {
            p = on ? p | flag : p & ~flag;
        }

        boolean wideA() {
            return (p & M) == 0;
        }

        boolean wideIndex() {
            return (p & W) == 0;
        }

        int indexMask() {
            return maskOf(wideIndex());
        }

        int a() {
            return c & maskOf(wideA());
        }

        void replaceP(int flags) {
            p = flags;
            x &= indexMask();
            y &= indexMask();
        }

        void showResult(int value, boolean wide) {
            int sign = (value & signOf(wide)) != 0 ? N : 0;
            int zero = value == 0 ? Z : 0;
            p = (p & ~(N | Z)) | sign | zero;
        }

        /** Narrow, the upper byte of c is not a part of A and stays. */
        void loadA(int value) {
            int mask = maskOf(wideA());
            c = (c & ~mask) | (value & mask);
            showResult(value & mask, wideA());
        }

        void loadX(int value) {
            x = value & indexMask();
            showResult(x, wideIndex());
        }

        void loadY(int value) {
            y = value & indexMask();
            showResult(y, wideIndex());
        }

        void loadC(int value) {
            c = value;
            showResult(c, true);
        }

        void loadD(int value) {
            d = value;
            showResult(d, true);
        }

        void loadDataBank(int value) {
            dataBank = value;
            showResult(dataBank, false);
        }

        void jumpTo(int address) {
            pc = address & 0xFFFF;
        }

        void jumpLong(int number) {
            programBank = number >> 16;
            pc = number & 0xFFFF;
        }
    }

    /** Reads operands behind the operation and finds the places that they mean. */
    private static final class Operands {
        static final int INDX = 0x01;
        static final int STACK = 0x03;
        static final int DIR = 0x05;
        static final int FAR = 0x07;
        static final int IMM = 0x09;
        static final int ABS = 0x0D;
        static final int LONG = 0x0F;
        static final int INDY = 0x11;
        static final int IND = 0x12;
        static final int STACKY = 0x13;
        static final int DIRX = 0x15;
        static final int FARY = 0x17;
        static final int ABSY = 0x19;
        static final int ABSX = 0x1D;
        static final int LONGX = 0x1F;

        private final Bus bus;
        private final Registers r;

        Operands(Bus bus, Registers registers) {
            this.bus = bus;
            this.r = registers;
        }

        /** The modes are all odd numbers but 0B and 1B, and IND. */
        static boolean isMode(int mode) {
            return mode == IND || ((mode & 1) == 1 && (mode & 15) != 0x0B);
        }

        int nextByte() {
            int b = bus.programByte(r.programBank, r.pc);
            r.pc = (r.pc + 1) & 0xFFFF;
            return b;
        }

        int nextWord() {
            int low = nextByte();
            return low | (nextByte() << 8);
        }

        int nextLong() {
            int low = nextByte();
            int middle = nextByte();
            return low | (middle << 8) | (nextByte() << 16);
        }

        int nextValue(boolean wide) {
            return wide ? nextWord() : nextByte();
        }

        int place(int mode) {
            return switch (mode) {
                case DIR -> direct(0);
                case DIRX -> direct(r.x);
                case ABS -> inDataBank(nextWord(), 0);
                case ABSX -> inDataBank(nextWord(), r.x);
                case ABSY -> inDataBank(nextWord(), r.y);
                case LONG -> nextLong();
                case LONGX -> Bus.longPlace(nextLong() + r.x);
                case IND -> inDataBank(bus.readWord(direct(0)), 0);
                case INDX -> inDataBank(bus.readWord(direct(r.x)), 0);
                case INDY -> inDataBank(bus.readWord(direct(0)), r.y);
                case FAR -> bus.readLong(direct(0));
                case FARY -> Bus.longPlace(bus.readLong(direct(0)) + r.y);
                case STACK -> onStack();
                case STACKY -> inDataBank(bus.readWord(onStack()), r.y);
                default -> 0;
            };
        }

        private int direct(int index) {
            return Bus.bank0Place(r.d + nextByte() + index);
        }

        private int onStack() {
            return Bus.bank0Place(r.s + nextByte());
        }

        private int inDataBank(int address, int index) {
            return Bus.longPlace((r.dataBank << 16) + address + index);
        }
    }

    private static final class Stack {
        private final Bus bus;
        private final Registers r;

        Stack(Bus bus, Registers registers) {
            this.bus = bus;
            this.r = registers;
        }

        void pushByte(int b) {
            bus.writeByte(Bus.bank0Place(r.s), b);
            r.s = (r.s - 1) & 0xFFFF;
        }

        void pushWord(int word) {
            pushByte(word >> 8);
            pushByte(word);
        }

        void pushValue(int value, boolean wide) {
            if (wide) {
                pushByte(value >> 8);
            }
            pushByte(value);
        }

        int pullByte() {
            r.s = (r.s + 1) & 0xFFFF;
            return bus.readByte(Bus.bank0Place(r.s));
        }

        int pullWord() {
            int low = pullByte();
            return low | (pullByte() << 8);
        }

        int pullValue(boolean wide) {
            return wide ? pullWord() : pullByte();
        }
    }

    /** Makes steps. Each family of operations is a method that answers whether the operation is one of its own. */
    private static final class Processor {
        private static final int BRK_VECTOR = 486;
        private static final int NMI_VECTOR = 490;
        private static final int IRQ_VECTOR = 494;

        private static final int ORA = 0;
        private static final int AND = 1;
        private static final int EOR = 2;
        private static final int ADC = 3;
        private static final int STA = 4;
        private static final int LDA = 5;
        private static final int CMP = 6;
        private static final int SBC = 7;
        /** Where STA IMM would be. */
        private static final int NO_STORE = 0x89;

        private static final int ASL = 0;
        private static final int ROL = 1;
        private static final int LSR = 2;
        private static final int ROR = 3;
        private static final int DEC = 6;
        private static final int INC = 7;

        private static final int BRK = 0x00;
        private static final int MVN = 0x54;
        private static final int MVP = 0x44;

        /** By the two highest bits of a branch. */
        private static final int[] BRANCH_FLAGS = {Registers.N, Registers.V, Registers.K, Registers.Z};

        private final Bus bus;
        private final Registers r;
        private final Operands operands;
        private final Stack stack;

        boolean nmiCalled;
        boolean irqCalled;
        boolean halted;
        int stepCount;

        Processor(Bus bus, Registers registers) {
            this.bus = bus;
            this.r = registers;
            operands = new Operands(bus, registers);
            stack = new Stack(bus, registers);
        }

        void makeStep() {
            stepCount++;
            if (nmiCalled) {
                nmiCalled = false;
                enterInterrupt(NMI_VECTOR);
                return;
            }
            if (irqCalled && !r.has(Registers.I)) {
                enterInterrupt(IRQ_VECTOR);
                return;
            }
            int op = operands.nextByte();
            if (op == BRK) {
                operands.nextByte();
                enterInterrupt(BRK_VECTOR);
                return;
            }
            boolean known = useAccumulator(op) || useIndex(op) || storeZero(op)
                    || changeMemory(op) || changeRegister(op) || transfer(op)
                    || push(op) || pull(op) || branch(op) || jump(op)
                    || changeFlags(op) || moveBlock(op);
            halted = !known;
        }

        private void enterInterrupt(int vector) {
            stack.pushByte(r.programBank);
            stack.pushWord(r.pc);
            stack.pushByte(r.p);
            r.putFlag(Registers.I, true);
            r.putFlag(Registers.T, false);
            r.programBank = 0;
            r.pc = bus.readWord(Bus.bank0Place(vector));
        }

        private boolean useAccumulator(int op) {
            int mode = op & 31;
            int kind = op >> 5;
            if (!Operands.isMode(mode) || op == NO_STORE) {
                return false;
            }
            boolean wide = r.wideA();
            if (kind == STA) {
                bus.writeValue(operands.place(mode), r.c, wide);
                return true;
            }
            int value = mode == Operands.IMM ? operands.nextValue(wide) : bus.readValue(operands.place(mode), wide);
            switch (kind) {
                case ORA -> r.loadA(r.a() | value);
                case AND -> r.loadA(r.a() & value);
                case EOR -> r.loadA(r.a() ^ value);
                case ADC -> addToA(value);
                case LDA -> r.loadA(value);
                case CMP -> compare(r.a(), value, wide);
                case SBC -> addToA(~value & Registers.maskOf(wide));
                default -> {
                    return false;
                }
            }
            return true;
        }

        private void addToA(int value) {
            boolean wide = r.wideA();
            int a = r.a();
            int sum = a + value + (r.p & Registers.K);
            int turned = ~(a ^ value) & (a ^ sum) & Registers.signOf(wide);
            r.putFlag(Registers.V, turned != 0);
            r.putFlag(Registers.K, sum > Registers.maskOf(wide));
            r.loadA(sum);
        }

        private void compare(int held, int value, boolean wide) {
            r.putFlag(Registers.K, held >= value);
            r.showResult((held - value) & Registers.maskOf(wide), wide);
        }

        private boolean useIndex(int op) {
            boolean wide = r.wideIndex();
            switch (op) {
                case 0xA2 -> r.loadX(operands.nextValue(wide));
                case 0xA6 -> r.loadX(bus.readValue(operands.place(Operands.DIR), wide));
                case 0xAE -> r.loadX(bus.readValue(operands.place(Operands.ABS), wide));
                case 0xA0 -> r.loadY(operands.nextValue(wide));
                case 0xA4 -> r.loadY(bus.readValue(operands.place(Operands.DIR), wide));
                case 0xAC -> r.loadY(bus.readValue(operands.place(Operands.ABS), wide));
                case 0xE0 -> compare(r.x, operands.nextValue(wide), wide);
                case 0xC0 -> compare(r.y, operands.nextValue(wide), wide);
                case 0x86 -> bus.writeValue(operands.place(Operands.DIR), r.x, wide);
                case 0x8E -> bus.writeValue(operands.place(Operands.ABS), r.x, wide);
                case 0x84 -> bus.writeValue(operands.place(Operands.DIR), r.y, wide);
                case 0x8C -> bus.writeValue(operands.place(Operands.ABS), r.y, wide);
                default -> {
                    return false;
                }
            }
            return true;
        }

        private boolean storeZero(int op) {
            switch (op) {
                case 0x64 -> bus.writeValue(operands.place(Operands.DIR), 0, r.wideA());
                case 0x9C -> bus.writeValue(operands.place(Operands.ABS), 0, r.wideA());
                default -> {
                    return false;
                }
            }
            return true;
        }

        private boolean changeMemory(int op) {
            int mode;
            switch (op) {
                case 0x06, 0x26, 0x46, 0x66, 0xC6, 0xE6 -> mode = Operands.DIR;
                case 0xCE, 0xEE -> mode = Operands.ABS;
                default -> {
                    return false;
                }
            }
            boolean wide = r.wideA();
            int place = operands.place(mode);
            int value = changed(op >> 5, bus.readValue(place, wide), wide);
            r.showResult(value, wide);
            bus.writeValue(place, value, wide);
            return true;
        }

        private boolean changeRegister(int op) {
            boolean wide = r.wideA();
            switch (op) {
                case 0x0A, 0x2A, 0x4A, 0x6A -> r.loadA(changed(op >> 5, r.a(), wide));
                case 0x1A -> r.loadA(changed(INC, r.a(), wide));
                case 0x3A -> r.loadA(changed(DEC, r.a(), wide));
                case 0xE8 -> r.loadX(r.x + 1);
                case 0xC8 -> r.loadY(r.y + 1);
                case 0xCA -> r.loadX(r.x - 1);
                case 0x88 -> r.loadY(r.y - 1);
                default -> {
                    return false;
                }
            }
            return true;
        }

        private int changed(int kind, int value, boolean wide) {
            int mask = Registers.maskOf(wide);
            int sign = Registers.signOf(wide);
            boolean carry = r.has(Registers.K);
            switch (kind) {
                case ASL, ROL -> r.putFlag(Registers.K, (value & sign) != 0);
                case LSR, ROR -> r.putFlag(Registers.K, (value & 1) != 0);
                default -> {
                }
            }
            return switch (kind) {
                case ASL -> (value << 1) & mask;
                case ROL -> ((value << 1) & mask) | (carry ? 1 : 0);
                case LSR -> value >> 1;
                case ROR -> (value >> 1) | (carry ? sign : 0);
                case INC -> (value + 1) & mask;
                case DEC -> (value - 1) & mask;
                default -> value;
            };
        }

        private boolean transfer(int op) {
            switch (op) {
                case 0xAA -> r.loadX(r.c);
                case 0xA8 -> r.loadY(r.c);
                case 0xBA -> r.loadX(r.s);
                case 0x9B -> r.loadY(r.x);
                case 0xBB -> r.loadX(r.y);
                case 0x8A -> r.loadA(r.x);
                case 0x98 -> r.loadA(r.y);
                case 0x5B -> r.loadD(r.c);
                case 0x7B -> r.loadC(r.d);
                case 0x3B -> r.loadC(r.s);
                case 0x9A -> r.s = r.x;
                case 0x1B -> r.s = r.c;
                case 0xEB -> {
                    r.c = (r.c >> 8) | ((r.c & 0xFF) << 8);
                    r.showResult(r.c & 0xFF, false);
                }
                default -> {
                    return false;
                }
            }
            return true;
        }

        private boolean push(int op) {
            switch (op) {
                case 0x48 -> stack.pushValue(r.c, r.wideA());
                case 0xDA -> stack.pushValue(r.x, r.wideIndex());
                case 0x5A -> stack.pushValue(r.y, r.wideIndex());
                case 0x08 -> stack.pushByte(r.p);
                case 0x8B -> stack.pushByte(r.dataBank);
                case 0x4B -> stack.pushByte(r.programBank);
                case 0x0B -> stack.pushWord(r.d);
                case 0xF4 -> stack.pushWord(operands.nextWord());
                default -> {
                    return false;
                }
            }
            return true;
        }

        private boolean pull(int op) {
            switch (op) {
                case 0x68 -> r.loadA(stack.pullValue(r.wideA()));
                case 0xFA -> r.loadX(stack.pullValue(r.wideIndex()));
                case 0x7A -> r.loadY(stack.pullValue(r.wideIndex()));
                case 0x2B -> r.loadD(stack.pullWord());
                case 0xAB -> r.loadDataBank(stack.pullByte());
                case 0x28 -> r.replaceP(stack.pullByte());
                default -> {
                    return false;
                }
            }
            return true;
        }

        private boolean branch(int op) {
            if (op == 0x82) {
                int far = operands.nextWord();
                r.jumpTo(r.pc + far);
                return true;
            }
            boolean always = op == 0x80;
            if (!always && (op & 31) != 0x10) {
                return false;
            }
            int near = (byte) operands.nextByte();
            if (always || r.has(BRANCH_FLAGS[op >> 6]) == ((op & 32) != 0)) {
                r.jumpTo(r.pc + near);
            }
            return true;
        }

        private boolean jump(int op) {
            switch (op) {
                case 0x4C -> r.jumpTo(operands.nextWord());
                case 0x5C -> r.jumpLong(operands.nextLong());
                case 0x20 -> {
                    int address = operands.nextWord();
                    stack.pushWord((r.pc - 1) & 0xFFFF);
                    r.jumpTo(address);
                }
                case 0x22 -> {
                    int number = operands.nextLong();
                    stack.pushByte(r.programBank);
                    stack.pushWord((r.pc - 1) & 0xFFFF);
                    r.jumpLong(number);
                }
                case 0x60 -> r.jumpTo(stack.pullWord() + 1);
                case 0x6B -> {
                    r.jumpTo(stack.pullWord() + 1);
                    r.programBank = stack.pullByte();
                }
                case 0x40 -> {
                    r.replaceP(stack.pullByte());
                    r.jumpTo(stack.pullWord());
                    r.programBank = stack.pullByte();
                }
                default -> {
                    return false;
                }
            }
            return true;
        }

        private boolean changeFlags(int op) {
            switch (op) {
                case 0xE2 -> r.replaceP(r.p | operands.nextByte());
                case 0xC2 -> r.replaceP(r.p & ~operands.nextByte());
                case 0x18 -> r.putFlag(Registers.K, false);
                case 0x38 -> r.putFlag(Registers.K, true);
                case 0x58 -> r.putFlag(Registers.I, false);
                case 0x78 -> r.putFlag(Registers.I, true);
                case 0xD8 -> r.putFlag(Registers.T, false);
                case 0xF8 -> r.putFlag(Registers.T, true);
                case 0xB8 -> r.putFlag(Registers.V, false);
                case 0xEA -> {
                }
                default -> {
                    return false;
                }
            }
            return true;
        }

        /** One step moves one byte; PC goes back for the next one, so that interrupts come between. */
        private boolean moveBlock(int op) {
            if (op != MVN && op != MVP) {
                return false;
            }
            int before = r.pc - 1;
            int to = operands.nextByte();
            int from = operands.nextByte();
            int way = op == MVN ? 1 : -1;
            r.dataBank = to;
            bus.writeByte((to << 16) | r.y, bus.readByte((from << 16) | r.x));
            r.x = (r.x + way) & r.indexMask();
            r.y = (r.y + way) & r.indexMask();
            if (r.c != 0) {
                r.jumpTo(before);
            }
            r.c = (r.c - 1) & 0xFFFF;
            return true;
        }
    }
}
