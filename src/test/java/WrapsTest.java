/**
 * Where addresses, long numbers and words wrap: PC, S, branches, calls, block moves, and the words of the
 * operations that have few operands. (PlacesTest has the wraps of those with many.)
 */
public final class WrapsTest {
    private static final Rows ROWS = new Rows();

    public static void main(String[] args) {
        cells();
        programCounter();
        programCounterOfJumps();
        pushedPlaces();
        branches();
        returns();
        pushes();
        pulls();
        wordsInDirectPages();
        wordsInBanks();
        changedWords();
        sumsInDirectPages();
        blockMovesEnd();
        blockMovesWrap();
        indexWidths();
        ROWS.end();
    }

    private static void row(String name, String setup, String code, String expected) {
        ROWS.row(name, setup, code, expected);
    }

    private static String hex(int number) {
        return String.format("%X", number);
    }

    private static String cell(int bank, int address) {
        return String.format("%03X", 512 * (bank % 2) + Math.floorMod(address, 65536) % 512);
    }

    /** The CELL of a bank and an address is 512 * (bank mod 2) + address mod 512. */
    private static void cells() {
        for (int bank : new int[] {0x00, 0x01, 0x02, 0x7F, 0x80, 0xFE, 0xFF}) {
            for (int address : new int[] {0x0000, 0x01FF, 0x0200, 0x03FF, 0x0400, 0x7FFF, 0x8000, 0xFE00, 0xFFFF}) {
                String word = String.format("%02X %02X", address % 256, address / 256);
                String cell = cell(bank, address);
                String read = String.format("pc=0040 m%s=5A", cell);
                row("LONG", read, String.format("AF %s %02X", word, bank), "c=5A t=" + cell);
                row("ABS", read + " db=" + hex(bank), "AD " + word, "c=5A t=" + cell);
                row("operation", "p=34 pb=" + hex(bank) + " pc=" + hex(address), "38", "p=35");
                row("move", "pc=0040 p=04 c=0 x=0123 y=" + hex(address) + " m123=5A", String.format("54 %02X 02", bank),
                        String.format("m%s=5A c=FFFF x=124 y=%X db=%X t=123,%s!", cell, (address + 1) % 65536, bank, cell));
            }
        }
    }

    /** PC goes behind each byte that is read; addresses in a bank wrap at 65536. */
    private static void programCounter() {
        everywhere("nothing", "", "EA", "");
        everywhere("SEP", "", "E2 01", "p=35");
        everywhere("REP", "", "C2 04", "p=30");
        everywhere("LDA", "", "A9 5A", "c=5A");
        everywhere("LDA wide", "p=14", "A9 5A 12", "c=125A");
        everywhere("LDX wide", "p=24", "A2 5A 12", "x=125A");
        everywhere("LDY wide", "p=24", "A0 5A 12", "y=125A");
        everywhere("CPX wide", "p=24 x=125A", "E0 5A 12", "p=27");
        everywhere("CPY wide", "p=24 y=125A", "C0 5A 12", "p=27");
        everywhere("DIR", "m080=5A", "A5 80", "c=5A t=080");
        everywhere("ABS", "db=01 m334=5A", "AD 34 01", "c=5A t=334");
        everywhere("LONG", "m334=5A", "AF 34 01 05", "c=5A t=334");
        everywhere("STACK", "s=0100 m112=5A", "A3 12", "c=5A t=112");
        everywhere("push a word", "s=0150", "F4 34 12", "s=14E m150=12 m14F=34 t=150!,14F!");
        everywhere("branch, flag 0", "p=34", "30 12", "");
        everywhere("the last byte moved", "p=04 c=0 x=0130 y=0140 m130=5A", "54 01 02",
                "m340=5A c=FFFF x=131 y=141 db=01 t=130,340!");
        everywhere("the last byte moved down", "p=04 c=0 x=0130 y=0140 m130=5A", "44 01 02",
                "m340=5A c=FFFF x=12F y=13F db=01 t=130,340!");
        everywhere("stop", "", "02", "stops");
    }

    /** At each place round the end of a bank, in an even, an odd and the last bank. */
    private static void everywhere(String name, String setup, String code, String expected) {
        int length = code.split(" ").length;
        for (String bank : new String[] {"00", "01", "02", "FF"}) {
            for (int before = 0; before <= length + 1; before++) {
                String pc = String.format(" pb=%s pc=%04X", bank, (65536 - before) % 65536);
                row(name + " round the end of a bank", setup + pc, code, expected);
            }
        }
    }

    private static void programCounterOfJumps() {
        everywhere("jump", "", "4C 34 12", "pc=1234");
        everywhere("jump to the last place", "", "4C FF FF", "pc=FFFF");
        everywhere("jump to the first place", "", "4C 00 00", "pc=0");
        everywhere("long jump", "", "5C 34 12 06", "pb=06 pc=1234");
        everywhere("long jump to the last place", "", "5C FF FF FF", "pb=FF pc=FFFF");
        everywhere("long jump to the first place", "", "5C 00 00 00", "pb=0 pc=0");
        row("the last place is read, then the first", "pb=02 pc=FFFF m000=38", "18", "n=2 p=35 pc=1");
        row("a move begins again at the last place", "p=04 pb=02 pc=FFFF c=1 x=0130 y=0140 m130=5A6B", "54 01 02",
                "n=2 m340=5A6B c=FFFF x=132 y=142 db=01 pc=2 t=130,340!,131,341!");
    }

    /** 20: the place of the latest byte read is pushed; 22: PB is pushed, then as 20; BRK pushes PC behind its byte. */
    private static void pushedPlaces() {
        for (int pc : new int[] {0x0000, 0x00FD, 0x00FE, 0x0100, 0xFFFB, 0xFFFC, 0xFFFD, 0xFFFE, 0xFFFF}) {
            String at = " s=0150 pb=03 pc=" + hex(pc);
            row("call", at, "20 34 12", word(pc + 2, "150", "14F") + " s=14E pc=1234 t=150!,14F!");
            row("long call", at, "22 34 12 06",
                    "m150=03 " + word(pc + 3, "14F", "14E") + " s=14D pb=6 pc=1234 t=150!,14F!,14E!");
            row("BRK", at + " m1E6=3412", "00 77", "m150=03 " + word(pc + 2, "14F", "14E")
                    + " m14D=34 s=14C pb=0 pc=1234 t=150!,14F!,14E!,14D!,1E6,1E7");
        }
    }

    private static String word(int address, String upper, String lower) {
        int wrapped = address % 65536;
        return String.format("m%s=%02X m%s=%02X", upper, wrapped / 256, lower, wrapped % 256);
    }

    /** r is a byte from -128 to 127 (a word at 82); addresses in a bank wrap. */
    private static void branches() {
        for (int pc : new int[] {0x0000, 0x0001, 0x007E, 0x007F, 0x0100, 0xFF7E, 0xFF7F, 0xFFFD, 0xFFFE, 0xFFFF}) {
            String at = " pb=03 pc=" + hex(pc);
            for (int r : new int[] {-128, -127, -3, -2, -1, 0, 1, 126, 127}) {
                String to = "pc=" + hex(Math.floorMod(pc + 2 + r, 65536));
                String near = String.format(" %02X", Math.floorMod(r, 256));
                row("branch always", at, "80" + near, to);
                branchIf("10", "30", "34", "B4", at, near, to);
                branchIf("50", "70", "34", "74", at, near, to);
                branchIf("90", "B0", "34", "35", at, near, to);
                branchIf("D0", "F0", "34", "36", at, near, to);
            }
            for (int r : new int[] {-32768, -32767, -256, -128, -3, -1, 0, 1, 127, 128, 255, 256, 32767}) {
                String far = String.format(" %02X %02X", Math.floorMod(r, 256), Math.floorMod(Math.floorDiv(r, 256), 256));
                row("branch by a word", at, "82" + far, "pc=" + hex(Math.floorMod(pc + 3 + r, 65536)));
            }
        }
    }

    private static void branchIf(String if0, String if1, String p0, String p1, String at, String near, String to) {
        row("branch if 0", "p=" + p0 + at, if0 + near, to);
        row("no branch if 1", "p=" + p1 + at, if0 + near, "");
        row("no branch if 0", "p=" + p0 + at, if1 + near, "");
        row("branch if 1", "p=" + p1 + at, if1 + near, to);
    }

    /** 60: a word is pulled, PC is one more; 6B: as 60, then PB is pulled. RTI: PC is what is pulled. */
    private static void returns() {
        for (int address : new int[] {0x0000, 0x00FE, 0x00FF, 0x0100, 0x7FFF, 0xFFFE, 0xFFFF}) {
            String bytes = String.format("%02X%02X", address % 256, address / 256);
            String next = hex((address + 1) % 65536);
            row("return", "pb=03 s=0150 m151=" + bytes, "60", "s=152 pc=" + next + " t=151,152");
            row("long return", "pb=03 s=0150 m151=" + bytes + "FF", "6B",
                    "s=153 pb=FF pc=" + next + " t=151,152,153");
            row("RTI", "pb=03 s=0150 m151=34" + bytes + "FF", "40",
                    "s=154 pb=FF pc=" + hex(address) + " t=151,152,153,154");
        }
    }

    /** To PUSH a byte: it is written to bank 0, S; S is one less. Words are pushed upper byte first. */
    private static void pushes() {
        push("A", "p=24 c=775A", "48", "5A", "");
        push("A wide", "p=14 c=125A", "48", "125A", "");
        push("X", "p=14 x=5A", "DA", "5A", "");
        push("X wide", "p=24 x=125A", "DA", "125A", "");
        push("Y", "p=14 y=5A", "5A", "5A", "");
        push("Y wide", "p=24 y=125A", "5A", "125A", "");
        push("P", "p=CF", "08", "CF", "");
        push("DB", "db=9A", "8B", "9A", "");
        push("PB", "", "4B", "05", "");
        push("D", "d=125A", "0B", "125A", "");
        push("a word", "", "F4 5A 12", "125A", "");
        push("for a call", "", "20 78 56", "0042", "pc=5678");
        push("for a long call", "", "22 78 56 9A", "050043", "pb=9A pc=5678");
    }

    /** The code is in an odd bank, where no byte of the stack is. */
    private static void push(String what, String setup, String code, String bytes, String expected) {
        for (int s : new int[] {0x0000, 0x0001, 0x0002, 0x00FF, 0x0100, 0x0200, 0x0201, 0xFFFE, 0xFFFF}) {
            StringBuilder after = new StringBuilder();
            StringBuilder touches = new StringBuilder();
            int count = bytes.length() / 2;
            for (int i = 0; i < count; i++) {
                String cell = cell(0, s - i);
                after.append(" m").append(cell).append("=").append(bytes, 2 * i, 2 * i + 2);
                touches.append(i == 0 ? " t=" : ",").append(cell).append("!");
            }
            row("push " + what, setup + " pb=05 pc=0040 s=" + hex(s), code,
                    expected + after + touches + " s=" + hex(Math.floorMod(s - count, 65536)));
        }
    }

    /** To PULL one: S is one more; it is read from there. */
    private static void pulls() {
        pull("A", "p=24 c=7700", "68", "5A", "c=775A");
        pull("A wide", "p=14", "68", "5A12", "c=125A");
        pull("X", "p=14", "FA", "5A", "x=5A");
        pull("X wide", "p=24", "FA", "5A12", "x=125A");
        pull("Y", "p=14", "7A", "5A", "y=5A");
        pull("Y wide", "p=24", "7A", "5A12", "y=125A");
        pull("D", "", "2B", "5A12", "d=125A");
        pull("DB", "", "AB", "5A", "db=5A");
        pull("P", "", "28", "CF", "p=CF");
        pull("for a return", "", "60", "5A12", "pc=125B");
        pull("for a long return", "", "6B", "5A129A", "pc=125B pb=9A");
        pull("for RTI", "", "40", "CF5A129A", "p=CF pc=125A pb=9A");
    }

    private static void pull(String what, String setup, String code, String bytes, String expected) {
        for (int s : new int[] {0x0000, 0x00FF, 0x01FE, 0x01FF, 0x0200, 0xFFFB, 0xFFFC, 0xFFFD, 0xFFFE, 0xFFFF}) {
            StringBuilder before = new StringBuilder();
            StringBuilder touches = new StringBuilder();
            int count = bytes.length() / 2;
            for (int i = 0; i < count; i++) {
                String cell = cell(0, s + 1 + i);
                before.append(" m").append(cell).append("=").append(bytes, 2 * i, 2 * i + 2);
                touches.append(i == 0 ? " t=" : ",").append(cell);
            }
            row("pull " + what, setup + " pb=05 pc=0040 s=" + hex(s) + before, code,
                    expected + touches + " s=" + hex((s + count) % 65536));
        }
    }

    /** A WORD is two bytes, the second one at the next address (for direct pages, just the address). */
    private static void wordsInDirectPages() {
        String at = "pb=05 pc=0040 db=03 d=FFF0 ";
        String held = at + "m1FF=5A m000=12 ";
        row("LDX DIR", held + "p=24", "A6 0F", "x=125A t=1FF,000");
        row("LDY DIR", held + "p=24", "A4 0F", "y=125A t=1FF,000");
        row("STX DIR", at + "p=24 x=125A", "86 0F", "m1FF=5A m000=12 t=1FF!,000!");
        row("STY DIR", at + "p=24 y=125A", "84 0F", "m1FF=5A m000=12 t=1FF!,000!");
        row("STZ DIR", held + "p=14", "64 0F", "m1FF=00 m000=00 t=1FF!,000!");
        row("LDX DIR narrow", held + "p=14", "A6 0F", "x=5A t=1FF");
        row("LDY DIR narrow", held + "p=14", "A4 0F", "y=5A t=1FF");
        row("STX DIR narrow", at + "p=14 x=5A", "86 0F", "m1FF=5A t=1FF!");
        row("STY DIR narrow", at + "p=14 y=5A", "84 0F", "m1FF=5A t=1FF!");
        row("STZ DIR narrow", held + "p=24", "64 0F", "m1FF=00 t=1FF!");
    }

    /** The second one at the next address, bank included; what is LONG wraps at 16777216. */
    private static void wordsInBanks() {
        wordInBanks("00", "1FF", "200");
        wordInBanks("01", "3FF", "000");
        wordInBanks("FE", "1FF", "200");
        wordInBanks("FF", "3FF", "000");
    }

    private static void wordInBanks(String bank, String first, String second) {
        String at = "pb=05 pc=0040 d=0100 db=" + bank + " ";
        String held = at + "m" + first + "=5A m" + second + "=12 ";
        String stored = "m" + first + "=5A m" + second + "=12 t=" + first + "!," + second + "!";
        row("LDX ABS", held + "p=24", "AE FF FF", "x=125A t=" + first + "," + second);
        row("LDY ABS", held + "p=24", "AC FF FF", "y=125A t=" + first + "," + second);
        row("STX ABS", at + "p=24 x=125A", "8E FF FF", stored);
        row("STY ABS", at + "p=24 y=125A", "8C FF FF", stored);
        row("STZ ABS", held + "p=14", "9C FF FF",
                "m" + first + "=00 m" + second + "=00 t=" + first + "!," + second + "!");
        row("LDX ABS narrow", held + "p=14", "AE FF FF", "x=5A t=" + first);
        row("LDY ABS narrow", held + "p=14", "AC FF FF", "y=5A t=" + first);
        row("STX ABS narrow", at + "p=14 x=5A", "8E FF FF", "m" + first + "=5A t=" + first + "!");
        row("STY ABS narrow", at + "p=14 y=5A", "8C FF FF", "m" + first + "=5A t=" + first + "!");
        row("STZ ABS narrow", held + "p=24", "9C FF FF", "m" + first + "=00 t=" + first + "!");
    }

    /** The changed word is read whole, then written whole, each time the lower byte first. */
    private static void changedWords() {
        changed("E6 0F", "p=14 d=FFF0", "1FF 000", "FF 12", "00 13", "14");
        changed("C6 0F", "p=14 d=FFF0", "1FF 000", "00 13", "FF 12", "14");
        changed("06 0F", "p=14 d=FFF0", "1FF 000", "80 92", "00 25", "15");
        changed("26 0F", "p=15 d=FFF0", "1FF 000", "80 92", "01 25", "15");
        changed("46 0F", "p=14 d=FFF0", "1FF 000", "01 25", "80 12", "15");
        changed("66 0F", "p=15 d=FFF0", "1FF 000", "01 25", "80 92", "95");
        for (int bank : new int[] {0x00, 0x01, 0xFE, 0xFF}) {
            String cells = bank % 2 == 0 ? "1FF 200" : "3FF 000";
            changed("EE FF FF", "p=14 db=" + hex(bank), cells, "FF 12", "00 13", "14");
            changed("CE FF FF", "p=14 db=" + hex(bank), cells, "00 13", "FF 12", "14");
        }
    }

    private static void changed(String code, String setup, String cells, String before, String after, String p) {
        String first = cells.substring(0, 3);
        String second = cells.substring(4);
        row("changed word", "pb=05 pc=0040 " + setup + held(cells, before), code, "p=" + p + held(cells, after)
                + " t=" + first + "," + second + "," + first + "!," + second + "!");
    }

    private static String held(String cells, String bytes) {
        return " m" + cells.replace(" ", "=" + bytes.substring(0, 2) + " m") + "=" + bytes.substring(3);
    }

    /** DIR d: bank 0, D + d. Sums in bank 0 are addresses: the last one, the first beyond, the greatest sum. */
    private static void sumsInDirectPages() {
        int[][] sums = {{0x0000, 0x00}, {0xFF00, 0xFF}, {0xFF01, 0xFF}, {0xFFFF, 0x00}, {0xFFFF, 0x01}, {0xFFFF, 0xFF}};
        for (int[] sum : sums) {
            String at = String.format("pb=05 pc=0040 db=03 p=34 d=%04X ", sum[0]);
            String operand = String.format(" %02X", sum[1]);
            String cell = cell(0, sum[0] + sum[1]);
            String held = at + "m" + cell + "=5A";
            row("LDX DIR", held, "A6" + operand, "x=5A t=" + cell);
            row("LDY DIR", held, "A4" + operand, "y=5A t=" + cell);
            row("STX DIR", at + "x=5A", "86" + operand, "m" + cell + "=5A t=" + cell + "!");
            row("STY DIR", at + "y=5A", "84" + operand, "m" + cell + "=5A t=" + cell + "!");
            row("STZ DIR", held, "64" + operand, "m" + cell + "=00 t=" + cell + "!");
            changedByte("INC DIR", held, "E6" + operand, cell, "5B", "34");
            changedByte("DEC DIR", held, "C6" + operand, cell, "59", "34");
            changedByte("ASL DIR", held, "06" + operand, cell, "B4", "B4");
            changedByte("ROL DIR", held, "26" + operand, cell, "B4", "B4");
            changedByte("LSR DIR", held, "46" + operand, cell, "2D", "34");
            changedByte("ROR DIR", held, "66" + operand, cell, "2D", "34");
        }
    }

    private static void changedByte(String name, String setup, String code, String cell, String after, String p) {
        row(name, setup, code, "p=" + p + " m" + cell + "=" + after + " t=" + cell + "," + cell + "!");
    }

    /** C is one less; if it was not 0, PC is what it was before the operation. */
    private static void blockMovesEnd() {
        for (int c : new int[] {0x0000, 0x0001, 0x00FF, 0x0100, 0x0101, 0x7FFF, 0x8000, 0xFF00, 0xFFFF}) {
            for (String p : new String[] {"04", "14", "24", "34"}) {
                String setup = "pb=05 pc=0040 x=60 y=70 m060=5A p=" + p + " c=" + hex(c);
                String expected = "m070=5A t=060,070! c=" + hex(Math.floorMod(c - 1, 65536)) + (c == 0 ? "" : " pc=40");
                row("MVN", setup, "54 00 00", expected + " x=61 y=71");
                row("MVP", setup, "44 00 00", expected + " x=5F y=6F");
            }
        }
    }

    /** X and Y are one more (54) or less (44) (by their width); they are addresses in their banks. */
    private static void blockMovesWrap() {
        for (int index : new int[] {0x0000, 0x0001, 0x00FE, 0x00FF, 0x0100, 0x01FF, 0x0200, 0x7FFF, 0xFFFE, 0xFFFF}) {
            for (String p : new String[] {"04", "14", "24", "34"}) {
                boolean narrow = p.equals("14") || p.equals("34");
                if (!narrow || index < 256) {
                    move(index, 0x0150, narrow, p);
                    move(0x80, index, narrow, p);
                }
            }
        }
    }

    private static void move(int x, int y, boolean narrow, String p) {
        int beyond = narrow ? 256 : 65536;
        int target = narrow ? y % 256 : y;
        String setup = "pb=05 pc=0040 c=0 p=" + p + " x=" + hex(x) + " y=" + hex(target);
        for (int to = 0xFE; to <= 0xFF; to++) {
            // From the other half of memory, so that the two cells are never one.
            int from = to == 0xFE ? 0xFF : 0x00;
            String read = cell(from, x);
            String written = cell(to, target);
            String banks = String.format(" %02X %02X", to, from);
            String expected = "c=FFFF db=" + hex(to) + " m" + written + "=5A t=" + read + "," + written + "!";
            row("MVN", setup + " m" + read + "=5A", "54" + banks, expected
                    + " x=" + hex((x + 1) % beyond) + " y=" + hex((target + 1) % beyond));
            row("MVP", setup + " m" + read + "=5A", "44" + banks, expected
                    + " x=" + hex(Math.floorMod(x - 1, beyond)) + " y=" + hex(Math.floorMod(target - 1, beyond)));
        }
    }

    /** When W becomes 1 the upper bytes of X and Y become 0; nothing else makes them so, and C keeps its own. */
    private static void indexWidths() {
        for (int p = 0; p < 256; p++) {
            boolean narrow = p / 16 % 2 == 1;
            String cut = narrow ? " x=34 y=78" : "";
            String wide = "pb=05 pc=0040 c=9ABC x=1234 y=5678 s=0150 ";
            row("SEP", wide + "p=00", String.format("E2 %02X", p), "p=" + hex(p) + cut);
            row("SEP of set bits", wide + "p=EF", String.format("E2 %02X", p), "p=" + hex(0xEF | p) + cut);
            row("SEP of a narrow one", "pb=05 pc=0040 c=9ABC x=34 y=78 p=5A", String.format("E2 %02X", p),
                    "p=" + hex(0x5A | p));
            row("REP", wide + "p=EF", String.format("C2 %02X", p), "p=" + hex(0xEF & ~p));
            row("REP of a narrow one", "pb=05 pc=0040 c=9ABC x=34 y=78 p=FF", String.format("C2 %02X", p), "p=" + hex(255 - p));
            row("PLP", wide + String.format("p=00 m151=%02X", p), "28", "s=151 t=151 p=" + hex(p) + cut);
            row("RTI", wide + String.format("p=00 m151=%02X341206", p), "40",
                    "s=154 t=151,152,153,154 pc=1234 pb=06 p=" + hex(p) + cut);
        }
    }
}
