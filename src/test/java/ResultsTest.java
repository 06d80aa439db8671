/** What results do to the flags, and where sums, differences and registers are cut, at the edges of both widths. */
public final class ResultsTest {
    private static final Rows ROWS = new Rows();
    private static final int[] BYTES = {0x00, 0x01, 0x7E, 0x7F, 0x80, 0x81, 0xFE, 0xFF};
    private static final int[] WORDS = {0x0000, 0x0001, 0x007F, 0x0080, 0x00FF, 0x0100, 0x7FFF, 0x8000, 0x8001,
        0xFF00, 0xFFFF};
    private static final int BYTE = 256;
    private static final int WORD = 65536;

    public static void main(String[] args) {
        loads();
        bits();
        bitsOfBoth();
        changesOfRegisters();
        changesOfMemory();
        transfersToIndex();
        transfersToA();
        pulls();
        fixedWidths();
        noResults();
        sums();
        comparisons();
        shifts();
        ROWS.end();
    }

    /**
     * A RESULT sets N to its highest bit (of eight or sixteen) and Z if it is 0. In the texts v is the result, o is
     * one less and u one more; V, O and U are the same as bytes, the lower one first. The flags p are those of the
     * widths; N and Z are tried as 0 and as 1 before.
     */
    private static void results(int beyond, int p, String setup, String code, String expected) {
        for (int value : beyond == BYTE ? BYTES : WORDS) {
            int flags = (value >= beyond / 2 ? 128 : 0) + (value == 0 ? 2 : 0);
            for (int before : new int[] {0x00, 0x82}) {
                ROWS.row("result " + value, filled(setup, value, beyond) + " p=" + hex(p + before),
                        filled(code, value, beyond), filled(expected, value, beyond) + " p=" + hex(p + flags));
            }
        }
    }

    private static String filled(String text, int value, int beyond) {
        int less = Math.floorMod(value - 1, beyond);
        int more = (value + 1) % beyond;
        return text.replace("<v>", digits(value, beyond)).replace("<V>", lowerFirst(value, beyond))
                .replace("<o>", digits(less, beyond)).replace("<O>", lowerFirst(less, beyond))
                .replace("<u>", digits(more, beyond)).replace("<U>", lowerFirst(more, beyond));
    }

    private static String digits(int value, int beyond) {
        return String.format(beyond == BYTE ? "%02X" : "%04X", value);
    }

    private static String lowerFirst(int value, int beyond) {
        return beyond == BYTE ? hex(value) : hex(value % 256) + hex(value / 256);
    }

    private static String hex(int number) {
        return String.format("%02X", number);
    }

    private static void narrow(int p, String setup, String code, String expected) {
        results(BYTE, p, setup, code, expected);
    }

    private static void wide(int p, String setup, String code, String expected) {
        results(WORD, p, setup, code, expected);
    }

    private static void loads() {
        narrow(0x24, "c=7733", "A9 <V>", "c=77<v>");
        wide(0x14, "c=7733", "A9 <V>", "c=<v>");
        narrow(0x14, "x=33", "A2 <V>", "x=<v>");
        wide(0x24, "x=7733", "A2 <V>", "x=<v>");
        narrow(0x14, "y=33", "A0 <V>", "y=<v>");
        wide(0x24, "y=7733", "A0 <V>", "y=<v>");
        loadFromMemory("A5 80", "AD 80 00", "c=77<v>", "c=<v>", 0x24, 0x14);
        loadFromMemory("A6 80", "AE 80 00", "x=<v>", "x=<v>", 0x14, 0x24);
        loadFromMemory("A4 80", "AC 80 00", "y=<v>", "y=<v>", 0x14, 0x24);
    }

    private static void loadFromMemory(String direct, String absolute, String ifNarrow, String ifWide, int pNarrow,
            int pWide) {
        for (String code : new String[] {direct, absolute}) {
            narrow(pNarrow, "c=7733 m080=<V>9C", code, ifNarrow + " t=080");
            wide(pWide, "c=7733 m080=<V>9C", code, ifWide + " t=080,081");
        }
    }

    private static void bits() {
        narrow(0x24, "c=8000", "09 <V>", "c=80<v>");
        wide(0x14, "c=0000", "09 <V>", "c=<v>");
        narrow(0x24, "c=80FF", "29 <V>", "c=80<v>");
        wide(0x14, "c=FFFF", "29 <V>", "c=<v>");
        narrow(0x24, "c=8000", "49 <V>", "c=80<v>");
        wide(0x14, "c=0000", "49 <V>", "c=<v>");
    }

    /** A becomes its bits or, and, exclusive or those of the operand: told bit by bit. */
    private static void bitsOfBoth() {
        for (int a : WORDS) {
            for (int b : new int[] {0x0000, 0x0F5A, 0x8001, 0x55AA, 0xFFFF, 0xFF00, 0x00FF}) {
                bitsOfBoth(a, b, WORD);
                bitsOfBoth(a % BYTE, b % BYTE, BYTE);
            }
        }
    }

    private static void bitsOfBoth(int a, int b, int beyond) {
        int inEither = 0;
        int inBoth = 0;
        for (int bit = 1; bit < beyond; bit *= 2) {
            int count = a / bit % 2 + b / bit % 2;
            inEither += count >= 1 ? bit : 0;
            inBoth += count == 2 ? bit : 0;
        }
        bitsOfBoth("09", a, b, inEither, beyond);
        bitsOfBoth("29", a, b, inBoth, beyond);
        bitsOfBoth("49", a, b, inEither - inBoth, beyond);
    }

    private static void bitsOfBoth(String op, int a, int b, int result, int beyond) {
        int widths = beyond == BYTE ? 0x24 : 0x14;
        String above = beyond == BYTE ? "77" : "";
        int flags = widths + (result >= beyond / 2 ? 128 : 0) + (result == 0 ? 2 : 0);
        ROWS.row("bits", "c=" + above + digits(a, beyond) + " p=" + hex(widths), op + lowerFirst(b, beyond),
                "c=" + above + digits(result, beyond) + " p=" + hex(flags));
    }

    /** INC and DEC, results, wrap. */
    private static void changesOfRegisters() {
        narrow(0x24, "c=77<o>", "1A", "c=77<v>");
        wide(0x14, "c=<o>", "1A", "c=<v>");
        narrow(0x24, "c=77<u>", "3A", "c=77<v>");
        wide(0x14, "c=<u>", "3A", "c=<v>");
        narrow(0x14, "x=<o>", "E8", "x=<v>");
        wide(0x24, "x=<o>", "E8", "x=<v>");
        narrow(0x14, "y=<o>", "C8", "y=<v>");
        wide(0x24, "y=<o>", "C8", "y=<v>");
        narrow(0x14, "x=<u>", "CA", "x=<v>");
        wide(0x24, "x=<u>", "CA", "x=<v>");
        narrow(0x14, "y=<u>", "88", "y=<v>");
        wide(0x24, "y=<u>", "88", "y=<v>");
    }

    private static void changesOfMemory() {
        for (String code : new String[] {"E6 80", "EE 80 00"}) {
            narrow(0x24, "m080=<O>9C", code, "m080=<V>9C t=080,080!");
            wide(0x14, "m080=<O>9C", code, "m080=<V>9C t=080,081,080!,081!");
        }
        for (String code : new String[] {"C6 80", "CE 80 00"}) {
            narrow(0x24, "m080=<U>9C", code, "m080=<V>9C t=080,080!");
            wide(0x14, "m080=<U>9C", code, "m080=<V>9C t=080,081,080!,081!");
        }
    }

    /** Width of X and Y, C or S is cut to it. */
    private static void transfersToIndex() {
        for (int narrowA : new int[] {0x00, 0x20}) {
            narrow(0x14 + narrowA, "c=91<v> x=33", "AA", "x=<v>");
            wide(0x04 + narrowA, "c=<v> x=7733", "AA", "x=<v>");
            narrow(0x14 + narrowA, "c=91<v> y=33", "A8", "y=<v>");
            wide(0x04 + narrowA, "c=<v> y=7733", "A8", "y=<v>");
            narrow(0x14 + narrowA, "s=91<v> x=33", "BA", "x=<v>");
            wide(0x04 + narrowA, "s=<v> x=7733", "BA", "x=<v>");
            narrow(0x14 + narrowA, "x=<v> y=33", "9B", "y=<v>");
            wide(0x04 + narrowA, "x=<v> y=7733", "9B", "y=<v>");
            narrow(0x14 + narrowA, "y=<v> x=33", "BB", "x=<v>");
            wide(0x04 + narrowA, "y=<v> x=7733", "BB", "x=<v>");
        }
    }

    /** Width of A: the upper byte of C stays if it is narrow, and is that of X or Y, 0 if those are narrow, if not. */
    private static void transfersToA() {
        narrow(0x24, "x=91<v> c=7733", "8A", "c=77<v>");
        narrow(0x34, "x=<v> c=7733", "8A", "c=77<v>");
        wide(0x04, "x=<v> c=7733", "8A", "c=<v>");
        narrow(0x24, "y=91<v> c=7733", "98", "c=77<v>");
        narrow(0x34, "y=<v> c=7733", "98", "c=77<v>");
        wide(0x04, "y=<v> c=7733", "98", "c=<v>");
        for (int value : BYTES) {
            String flags = value == 0 ? "p=16" : "p=14";
            ROWS.row("A = narrow X", "p=94 c=7733 x=" + hex(value), "8A", flags + " c=" + hex(value));
            ROWS.row("A = narrow Y", "p=94 c=7733 y=" + hex(value), "98", flags + " c=" + hex(value));
        }
    }

    private static void pulls() {
        narrow(0x24, "c=7733 s=0150 m151=<V>9C", "68", "c=77<v> s=151 t=151");
        wide(0x14, "c=7733 s=0150 m151=<V>9C", "68", "c=<v> s=152 t=151,152");
        narrow(0x14, "x=33 s=0150 m151=<V>9C", "FA", "x=<v> s=151 t=151");
        wide(0x24, "x=7733 s=0150 m151=<V>9C", "FA", "x=<v> s=152 t=151,152");
        narrow(0x14, "y=33 s=0150 m151=<V>9C", "7A", "y=<v> s=151 t=151");
        wide(0x24, "y=7733 s=0150 m151=<V>9C", "7A", "y=<v> s=152 t=151,152");
    }

    /** Sixteen or eight bits, whatever M and W say. */
    private static void fixedWidths() {
        for (int p : new int[] {0x04, 0x14, 0x24, 0x34}) {
            wide(p, "c=<v> d=1", "5B", "d=<v>");
            wide(p, "d=<v> c=7733", "7B", "c=<v>");
            wide(p, "s=<v> c=7733", "3B", "c=<v>");
            wide(p, "s=0150 m151=<V>9C d=1", "2B", "d=<v> s=152 t=151,152");
            narrow(p, "s=0150 m151=<V>9C db=33", "AB", "db=<v> s=151 t=151");
            narrow(p, "c=<v>91", "EB", "c=91<v>");
            narrow(p, "c=<v>00", "EB", "c=00<v>");
        }
    }

    /** 9A S = X, 1B S = C: no result. Stores, pushes and the pulled P make none either. */
    private static void noResults() {
        for (int p : new int[] {0x04, 0x14, 0x24, 0x34, 0x86, 0x96, 0xA6, 0xB6}) {
            boolean narrowIndex = p / 16 % 2 == 1;
            for (int value : WORDS) {
                String flags = String.format("p=%02X", p);
                String digits = digits(value, WORD);
                String cut = narrowIndex ? hex(value % 256) : digits;
                ROWS.row("S = X", flags + " s=9133 x=" + digits, "9A", "s=" + cut);
                ROWS.row("S = C", flags + " s=9133 c=" + digits, "1B", "s=" + digits);
                ROWS.row("STA", flags + " c=" + digits, "85 80", stored(value, p / 32 % 2 == 1));
                ROWS.row("STX", flags + " x=" + digits, "86 80", stored(value, narrowIndex));
                ROWS.row("STY", flags + " y=" + digits, "84 80", stored(value, narrowIndex));
            }
        }
    }

    private static String stored(int value, boolean narrow) {
        return narrow ? "m080=" + hex(value % 256) + " t=080!" : "m080=" + lowerFirst(value, WORD) + " t=080!,081!";
    }

    /** ADC: K is what goes beyond the width, V if both had one sign and the sum another one. SBC: the bits turned. */
    private static void sums() {
        for (int carry = 0; carry <= 1; carry++) {
            for (int a : BYTES) {
                for (int b : BYTES) {
                    sum(a, b, carry, BYTE);
                }
            }
            for (int a : WORDS) {
                for (int b : WORDS) {
                    sum(a, b, carry, WORD);
                }
            }
        }
    }

    private static void sum(int a, int b, int carry, int beyond) {
        int widths = beyond == BYTE ? 0x24 : 0x14;
        String above = beyond == BYTE ? "77" : "";
        int all = a + b + carry;
        int signed = signed(a, beyond) + signed(b, beyond) + carry;
        boolean outside = signed < -beyond / 2 || signed >= beyond / 2;
        int cut = all % beyond;
        int flags = widths + (cut >= beyond / 2 ? 128 : 0) + (outside ? 64 : 0) + (cut == 0 ? 2 : 0) + all / beyond;
        String expected = "c=" + above + digits(cut, beyond) + " p=" + hex(flags);
        for (int before : new int[] {0x00, 0xC2}) {
            String setup = "c=" + above + digits(a, beyond) + " p=" + hex(widths + before + carry);
            ROWS.row("ADC", setup, "69" + lowerFirst(b, beyond), expected);
            ROWS.row("SBC", setup, "E9" + lowerFirst(beyond - 1 - b, beyond), expected);
        }
    }

    private static int signed(int value, int beyond) {
        return value >= beyond / 2 ? value - beyond : value;
    }

    /** The result of A less the operand is not kept; K if A is not less (as unsigned numbers). */
    private static void comparisons() {
        for (int a : BYTES) {
            for (int b : BYTES) {
                comparison(a, b, BYTE);
            }
        }
        for (int a : WORDS) {
            for (int b : WORDS) {
                comparison(a, b, WORD);
            }
        }
    }

    private static void comparison(int a, int b, int beyond) {
        int less = Math.floorMod(a - b, beyond);
        int flags = (less >= beyond / 2 ? 128 : 0) + (less == 0 ? 2 : 0) + (a >= b ? 1 : 0);
        String above = beyond == BYTE ? "77" : "";
        for (int before : new int[] {0x00, 0x83, 0x40}) {
            int v = before & 0x40;
            int accumulator = beyond == BYTE ? 0x24 : 0x14;
            int index = beyond == BYTE ? 0x14 : 0x24;
            ROWS.row("CMP", "c=" + above + digits(a, beyond) + " p=" + hex(accumulator + before),
                    "C9" + lowerFirst(b, beyond), "p=" + hex(accumulator + flags + v));
            ROWS.row("CPX", "x=" + digits(a, beyond) + " p=" + hex(index + before),
                    "E0" + lowerFirst(b, beyond), "p=" + hex(index + flags + v));
            ROWS.row("CPY", "y=" + digits(a, beyond) + " p=" + hex(index + before),
                    "C0" + lowerFirst(b, beyond), "p=" + hex(index + flags + v));
        }
    }

    /** The highest bit or the lowest goes to K; 0 or K comes in; a result each. */
    private static void shifts() {
        for (int carry = 0; carry <= 1; carry++) {
            for (int value : BYTES) {
                shift(value, carry, BYTE);
            }
            for (int value : WORDS) {
                shift(value, carry, WORD);
            }
        }
    }

    private static void shift(int value, int carry, int beyond) {
        int half = beyond / 2;
        shifted("06 80", "0A", value, carry, value * 2 % beyond, value / half, beyond);
        shifted("26 80", "2A", value, carry, value * 2 % beyond + carry, value / half, beyond);
        shifted("46 80", "4A", value, carry, value / 2, value % 2, beyond);
        shifted("66 80", "6A", value, carry, value / 2 + carry * half, value % 2, beyond);
    }

    private static void shifted(String ofMemory, String ofA, int value, int carry, int result, int out, int beyond) {
        int widths = beyond == BYTE ? 0x24 : 0x14;
        String above = beyond == BYTE ? "77" : "";
        String touches = beyond == BYTE ? " t=080,080!" : " t=080,081,080!,081!";
        String after = " p=" + hex(widths + (result >= beyond / 2 ? 128 : 0) + (result == 0 ? 2 : 0) + out);
        for (int before : new int[] {0x00, 0x82}) {
            String p = " p=" + hex(widths + before + carry);
            ROWS.row("shift of memory", "m080=" + lowerFirst(value, beyond) + "9C" + p, ofMemory,
                    "m080=" + lowerFirst(result, beyond) + "9C" + after + touches);
            ROWS.row("shift of A", "c=" + above + digits(value, beyond) + p, ofA,
                    "c=" + above + digits(result, beyond) + after);
        }
    }
}
