/** What each operation does to registers, flags and memory, at both widths, with the edges. */
public final class OperationsTest {
    private static final Rows ROWS = new Rows();

    public static void main(String[] args) {
        bits();
        additions();
        subtractions();
        comparisons();
        indexLoads();
        indexStores();
        memoryChanges();
        accumulatorChanges();
        indexChanges();
        transfersToIndex();
        transfersToOthers();
        pushes();
        pulls();
        branches();
        jumps();
        flags();
        blockMoves();
        breakAndReturn();
        ROWS.end();
    }

    private static void row(String name, String setup, String code, String expected) {
        ROWS.row(name, setup, code, expected);
    }

    private static void bits() {
        row("ORA", "c=7700", "09 00", "p=36");
        row("ORA", "c=7780", "09 01", "c=7781 p=B4");
        row("ORA wide", "p=14 c=8001", "09 10 00", "c=8011 p=94");
        row("AND", "c=FF0F", "29 F0", "c=FF00 p=36");
        row("AND wide", "p=14 c=8000", "29 FF 7F", "c=0000 p=16");
        row("EOR", "c=77FF", "49 7F", "c=7780 p=B4");
        row("EOR wide", "p=14 c=0FF0", "49 FF FF", "c=F00F p=94");
        row("LDA", "c=7701 p=B6", "A9 01", "p=34");
        row("LDA zero", "c=77FF", "A9 00", "c=7700 p=36");
        row("LDA wide, lower byte 0", "p=14", "A9 00 80", "c=8000 p=94");
        row("LDA wide, bit 7 is no sign", "p=14", "A9 80 00", "c=0080 p=14");
    }

    private static void additions() {
        row("ADC", "c=7701", "69 02", "c=7703");
        row("ADC takes K", "p=35 c=7701", "69 02", "c=7704 p=34");
        row("ADC beyond", "c=77FF", "69 01", "c=7700 p=37");
        row("ADC V up", "c=007F", "69 01", "c=0080 p=F4");
        row("ADC V by K", "p=35 c=007F", "69 00", "c=0080 p=F4");
        row("ADC V down", "c=0080", "69 80", "c=0000 p=77");
        row("ADC clears V", "p=74 c=0001", "69 01", "c=0002 p=34");
        row("ADC of other signs", "c=00FF", "69 7F", "c=007E p=35");
        row("ADC, T means nothing", "p=3C c=0009", "69 01", "c=000A");
        row("ADC wide", "p=14 c=00FF", "69 01 00", "c=0100");
        row("ADC wide beyond", "p=14 c=FFFF", "69 01 00", "c=0000 p=17");
        row("ADC wide, all with K", "p=15 c=FFFF", "69 FF FF", "c=FFFF p=95");
        row("ADC wide V up", "p=14 c=7FFF", "69 01 00", "c=8000 p=D4");
        row("ADC wide V down", "p=14 c=8000", "69 00 80", "c=0000 p=57");
    }

    private static void subtractions() {
        row("SBC", "p=35 c=7705", "E9 03", "c=7702");
        row("SBC without K", "p=34 c=7705", "E9 03", "c=7701 p=35");
        row("SBC below", "p=35 c=7703", "E9 05", "c=77FE p=B4");
        row("SBC to 0", "p=35 c=7705", "E9 05", "c=7700 p=37");
        row("SBC V down", "p=35 c=0080", "E9 01", "c=007F p=75");
        row("SBC V up", "p=35 c=007F", "E9 FF", "c=0080 p=F4");
        row("SBC, T means nothing", "p=3D c=0010", "E9 01", "c=000F");
        row("SBC wide", "p=15 c=0100", "E9 01 00", "c=00FF");
        row("SBC wide V", "p=15 c=8000", "E9 01 00", "c=7FFF p=55");
        row("SBC wide below", "p=15 c=0000", "E9 01 00", "c=FFFF p=94");
    }

    private static void comparisons() {
        row("CMP same", "c=7705", "C9 05", "p=37");
        row("CMP more", "c=7706", "C9 05", "p=35");
        row("CMP less", "p=35 c=7704", "C9 05", "p=B4");
        row("CMP unsigned", "c=00FF", "C9 01", "p=B5");
        row("CMP leaves V", "p=74 c=0080", "C9 01", "p=75");
        row("CMP wide more", "p=14 c=0100", "C9 FF 00", "p=15");
        row("CMP wide less", "p=15 c=0000", "C9 01 00", "p=94");
        row("CPX same", "x=05", "E0 05", "p=37");
        row("CPX less", "p=35 x=04", "E0 05", "p=B4");
        row("CPX wide", "p=24 x=0100", "E0 FF 00", "p=25");
        row("CPX wide less", "p=25 x=0001", "E0 02 00", "p=A4");
        row("CPY same", "y=05", "C0 05", "p=37");
        row("CPY less", "p=35 y=04", "C0 05", "p=B4");
        row("CPY wide", "p=24 y=0100", "C0 FF 00", "p=25");
        row("CPY wide less", "p=25 y=0001", "C0 02 00", "p=A4");
    }

    private static void indexLoads() {
        row("LDX", "", "A2 80", "x=80 p=B4");
        row("LDX zero", "x=12", "A2 00", "x=0 p=36");
        row("LDX wide", "p=24", "A2 34 12", "x=1234");
        row("LDX wide sign", "p=24", "A2 00 80", "x=8000 p=A4");
        row("LDX DIR", "d=0100 m120=5A12", "A6 20", "x=5A t=120");
        row("LDX DIR wide", "p=24 d=0100 m120=5A12", "A6 20", "x=125A t=120,121");
        row("LDX DIR wide wraps", "p=24 pc=0040 d=FFF0 m1FF=5A m000=12", "A6 0F", "x=125A t=1FF,000");
        row("LDX ABS", "db=01 m234=5A12", "AE 34 02", "x=5A t=234");
        row("LDX ABS wide", "p=24 db=01 m234=5A12", "AE 34 02", "x=125A t=234,235");
        row("LDY", "", "A0 80", "y=80 p=B4");
        row("LDY zero", "y=12", "A0 00", "y=0 p=36");
        row("LDY wide", "p=24", "A0 34 12", "y=1234");
        row("LDY DIR", "d=0100 m120=5A12", "A4 20", "y=5A t=120");
        row("LDY DIR wide", "p=24 d=0100 m120=5A12", "A4 20", "y=125A t=120,121");
        row("LDY ABS", "db=01 m234=5A12", "AC 34 02", "y=5A t=234");
        row("LDY ABS wide", "p=24 db=01 m234=5A12", "AC 34 02", "y=125A t=234,235");
    }

    private static void indexStores() {
        row("STX DIR", "x=5A", "86 20", "m020=5A t=020!");
        row("STX DIR wide", "p=24 x=125A", "86 20", "m020=5A12 t=020!,021!");
        row("STX DIR wide wraps", "p=24 pc=0040 d=FFF0 x=125A", "86 0F", "m1FF=5A m000=12 t=1FF!,000!");
        row("STX ABS", "db=01 x=5A", "8E 34 02", "m234=5A t=234!");
        row("STX ABS wide", "p=24 pc=0040 x=125A", "8E FF FF", "m1FF=5A m200=12 t=1FF!,200!");
        row("STY DIR", "y=5A", "84 20", "m020=5A t=020!");
        row("STY DIR wide", "p=24 y=125A", "84 20", "m020=5A12 t=020!,021!");
        row("STY ABS", "db=01 y=5A", "8C 34 02", "m234=5A t=234!");
        row("STY ABS wide", "p=24 db=01 y=125A", "8C 34 02", "m234=5A12 t=234!,235!");
        row("STZ DIR", "p=24 m020=FFFF", "64 20", "m020=00 t=020!");
        row("STZ DIR wide", "p=14 m020=FFFF", "64 20", "m020=0000 t=020!,021!");
        row("STZ ABS", "p=24 db=01 m234=FFFF", "9C 34 02", "m234=00 t=234!");
        row("STZ ABS wide", "p=14 db=01 m234=FFFF", "9C 34 02", "m234=0000 t=234!,235!");
    }

    private static void memoryChanges() {
        row("INC DIR", "p=35 m020=7F", "E6 20", "m020=80 p=B5 t=020,020!");
        row("INC DIR wraps", "m020=FF", "E6 20", "m020=00 p=36 t=020,020!");
        row("INC DIR wide", "p=14 m020=FF00", "E6 20", "m020=0001 t=020,021,020!,021!");
        row("INC ABS", "db=01 m234=01", "EE 34 02", "m234=02 t=234,234!");
        row("INC ABS wide, two banks", "p=14 pc=0040 m1FF=FF m200=FF", "EE FF FF",
                "m1FF=00 m200=00 p=16 t=1FF,200,1FF!,200!");
        row("DEC DIR", "p=35 m020=00", "C6 20", "m020=FF p=B5 t=020,020!");
        row("DEC DIR to 0", "m020=01", "C6 20", "m020=00 p=36 t=020,020!");
        row("DEC DIR wide", "p=14 m020=0000", "C6 20", "m020=FFFF p=94 t=020,021,020!,021!");
        row("DEC ABS", "db=01 m234=03", "CE 34 02", "m234=02 t=234,234!");
        row("DEC ABS wide", "p=14 db=01 m234=0001", "CE 34 02", "m234=FF00 t=234,235,234!,235!");
        row("ASL", "m020=81", "06 20", "m020=02 p=35 t=020,020!");
        row("ASL, 0 comes in", "p=35 m020=40", "06 20", "m020=80 p=B4 t=020,020!");
        row("ASL wide", "p=14 m020=0180", "06 20", "m020=0200 p=15 t=020,021,020!,021!");
        row("ROL", "p=35 m020=80", "26 20", "m020=01 p=35 t=020,020!");
        row("ROL of many bits", "p=35 m020=2B", "26 20", "m020=57 p=34 t=020,020!");
        row("ROL to 0", "p=34 m020=80", "26 20", "m020=00 p=37 t=020,020!");
        row("ROL wide", "p=15 m020=0080", "26 20", "m020=0100 p=15 t=020,021,020!,021!");
        row("LSR", "m020=01", "46 20", "m020=00 p=37 t=020,020!");
        row("LSR, 0 comes in", "p=B5 m020=80", "46 20", "m020=40 p=34 t=020,020!");
        row("LSR wide", "p=14 m020=0101", "46 20", "m020=8000 p=15 t=020,021,020!,021!");
        row("ROR", "p=35 m020=00", "66 20", "m020=80 p=B4 t=020,020!");
        row("ROR of many bits", "p=34 m020=D7", "66 20", "m020=6B p=35 t=020,020!");
        row("ROR, 0 comes in", "p=34 m020=D4", "66 20", "m020=6A t=020,020!");
        row("ROR both", "p=35 m020=01", "66 20", "m020=80 p=B5 t=020,020!");
        row("ROR wide", "p=15 m020=0100", "66 20", "m020=0080 p=95 t=020,021,020!,021!");
    }

    private static void accumulatorChanges() {
        row("ASL A", "p=35 c=7740", "0A", "c=7780 p=B4");
        row("ASL A wide", "p=14 c=8001", "0A", "c=0002 p=15");
        row("ROL A", "p=35 c=7780", "2A", "c=7701 p=35");
        row("ROL A wide", "p=15 c=8000", "2A", "c=0001 p=15");
        row("LSR A", "c=7701", "4A", "c=7700 p=37");
        row("LSR A wide", "p=15 c=0100", "4A", "c=0080 p=14");
        row("ROR A", "p=35 c=7700", "6A", "c=7780 p=B4");
        row("ROR A wide", "p=15 c=0001", "6A", "c=8000 p=95");
        row("ROL A of many bits", "p=15 c=2B35", "2A", "c=566B p=14");
        row("ROR A of many bits", "p=14 c=D62B", "6A", "c=6B15 p=15");
        row("INC A", "p=35 c=77FF", "1A", "c=7700 p=37");
        row("INC A wide", "p=14 c=00FF", "1A", "c=0100");
        row("INC A wide wraps", "p=14 c=FFFF", "1A", "c=0000 p=16");
        row("DEC A", "p=35 c=7700", "3A", "c=77FF p=B5");
        row("DEC A wide wraps", "p=14 c=0000", "3A", "c=FFFF p=94");
    }

    private static void indexChanges() {
        row("INX wraps", "x=FF", "E8", "x=0 p=36");
        row("INX sign", "x=7F", "E8", "x=80 p=B4");
        row("INX wide", "p=24 x=00FF", "E8", "x=0100");
        row("INX wide wraps", "p=24 x=FFFF", "E8", "x=0 p=26");
        row("INY wraps", "y=FF", "C8", "y=0 p=36");
        row("INY wide", "p=24 y=7FFF", "C8", "y=8000 p=A4");
        row("DEX wraps", "x=0", "CA", "x=FF p=B4");
        row("DEX wide wraps", "p=24 x=0", "CA", "x=FFFF p=A4");
        row("DEX to 0", "x=1", "CA", "x=0 p=36");
        row("DEY wraps", "y=0", "88", "y=FF p=B4");
        row("DEY wide", "p=24 y=0100", "88", "y=00FF p=24");
    }

    private static void transfersToIndex() {
        row("X = A", "c=7781", "AA", "x=81 p=B4");
        row("X = A, X wide", "p=24 c=7781", "AA", "x=7781");
        row("X = A, X narrow", "p=14 c=7700 x=5", "AA", "x=0 p=16");
        row("Y = A", "c=7781", "A8", "y=81 p=B4");
        row("Y = A, Y wide", "p=24 c=7781", "A8", "y=7781");
        row("X = S", "s=01F0", "BA", "x=F0 p=B4");
        row("X = S wide", "p=24 s=01F0", "BA", "x=01F0");
        row("Y = X", "x=5A", "9B", "y=5A");
        row("Y = X wide", "p=24 x=8001", "9B", "y=8001 p=A4");
        row("X = Y", "x=1", "BB", "x=0 p=36");
        row("X = Y wide", "p=24 y=8001", "BB", "x=8001 p=A4");
    }

    private static void transfersToOthers() {
        row("A = X", "c=7700 x=81", "8A", "c=7781 p=B4");
        row("A = X, A narrow", "p=24 c=7700 x=1280", "8A", "c=7780 p=A4");
        row("A = X, A wide", "p=14 c=FFFF x=81", "8A", "c=0081");
        row("A = Y", "c=7700 y=81", "98", "c=7781 p=B4");
        row("A = Y, A narrow", "p=24 c=7701 y=1200", "98", "c=7700 p=26");
        row("A = Y, both wide", "p=04 y=8081", "98", "c=8081 p=84");
        row("D = C", "c=8001", "5B", "d=8001 p=B4");
        row("D = C zero", "d=1", "5B", "d=0 p=36");
        row("C = D", "c=1234 d=8000", "7B", "c=8000 p=B4");
        row("C = S", "c=1234 s=01FF", "3B", "c=01FF");
        row("S = X", "p=34 x=0", "9A", "s=0");
        row("S = X wide", "p=26 x=8234", "9A", "s=8234");
        row("S = C", "c=8000", "1B", "s=8000");
        row("bytes of C", "c=8012", "EB", "c=1280 p=B4");
        row("bytes of C, lower one 0", "c=0012", "EB", "c=1200 p=36");
        row("bytes of C wide", "p=14 c=8100", "EB", "c=0081 p=94");
    }

    private static void pushes() {
        row("push A", "c=775A s=0150 db=01", "48", "m150=5A s=014F t=150!");
        row("push A wide", "p=14 c=775A s=0150", "48", "m150=77 m14F=5A s=014E t=150!,14F!");
        row("push A wraps", "p=14 pc=0040 c=775A s=0", "48", "m000=77 m1FF=5A s=FFFE t=000!,1FF!");
        row("push X", "x=5A s=0150", "DA", "m150=5A s=014F t=150!");
        row("push X wide", "p=24 x=775A s=0150", "DA", "m150=77 m14F=5A s=014E t=150!,14F!");
        row("push Y", "y=5A s=0150", "5A", "m150=5A s=014F t=150!");
        row("push Y wide", "p=24 y=775A s=0150", "5A", "m150=77 m14F=5A s=014E t=150!,14F!");
        row("push P", "p=FF s=0150", "08", "m150=FF s=014F t=150!");
        row("push DB", "db=12 s=0150", "8B", "m150=12 s=014F t=150!");
        row("push PB", "pb=07 s=0150", "4B", "m150=07 s=014F t=150!");
        row("push D", "d=1234 s=0150", "0B", "m150=12 m14F=34 s=014E t=150!,14F!");
        row("push a word onto its operand", "pc=0140 s=0142", "F4 34 12", "m142=12 m141=34 s=0140 t=142!,141!");
        row("push a word", "s=0150", "F4 34 12", "m150=12 m14F=34 s=014E t=150!,14F!");
    }

    private static void pulls() {
        row("pull A", "c=7700 s=014F db=01 m150=81", "68", "c=7781 s=0150 p=B4 t=150");
        row("pull A wide", "p=14 s=014F m150=0080", "68", "c=8000 s=0151 p=94 t=150,151");
        row("pull A wraps", "pc=0040 s=FFFF m000=5A", "68", "c=005A s=0 t=000");
        row("pull A wide wraps", "p=14 pc=0040 s=FFFE m1FF=5A m000=12", "68", "c=125A s=0 t=1FF,000");
        row("pull X", "x=1 s=014F", "FA", "x=0 s=0150 p=36 t=150");
        row("pull X wide", "p=24 s=014F m150=0080", "FA", "x=8000 s=0151 p=A4 t=150,151");
        row("pull Y", "s=014F m150=81", "7A", "y=81 s=0150 p=B4 t=150");
        row("pull Y wide", "p=24 s=014F m150=8000", "7A", "y=0080 s=0151 t=150,151");
        row("pull D", "s=014F m150=0080", "2B", "d=8000 s=0151 p=B4 t=150,151");
        row("pull DB", "s=014F m150=81", "AB", "db=81 s=0150 p=B4 t=150");
        row("pull DB, 0, wide A", "p=04 db=1 s=014F", "AB", "db=0 s=0150 p=06 t=150");
        row("pull P", "p=04 x=1234 y=5678 s=014F m150=10", "28", "p=10 x=34 y=78 s=0150 t=150");
        row("pull P, X stays wide", "p=04 x=1234 y=5678 s=014F m150=EF", "28", "p=EF s=0150 t=150");
    }

    private static void branches() {
        int[] ops = {0x10, 0x30, 0x50, 0x70, 0x90, 0xB0, 0xD0, 0xF0};
        int[] flags = {128, 128, 64, 64, 1, 1, 2, 2};
        for (int i = 0; i < ops.length; i++) {
            boolean ifSet = i % 2 == 1;
            String code = String.format("%02X 20", ops[i]);
            String set = String.format("p=%02X", 0x34 | flags[i]);
            String clear = String.format("p=%02X", 0xFF & ~flags[i]);
            row("branch, flag 1", set, code, ifSet ? "pc=0022" : "");
            row("branch, flag 0", clear, code, ifSet ? "" : "pc=0022");
        }
        row("branch always", "pb=05", "80 7F", "pc=0081");
        row("branch to itself", "pc=0010", "80 FE", "pc=0010");
        row("branch back below 0", "", "80 80", "pc=FF82");
        row("branch beyond the bank", "pb=05 pc=FFFE", "80 02", "pc=0002");
        row("branch by a word", "", "82 34 12", "pc=1237");
        row("branch back by a word", "pb=05 pc=0010", "82 ED FF", "pc=0000");
    }

    private static void jumps() {
        row("jump", "pb=05", "4C 34 12", "pc=1234");
        row("long jump", "pb=05", "5C 34 12 06", "pb=06 pc=1234");
        row("call", "pb=05 pc=0110 s=0150", "20 34 12", "m150=01 m14F=12 s=014E pc=1234 t=150!,14F!");
        row("call, latest byte at the end", "pc=FFFD s=0150", "20 34 12", "m150=FF m14F=FF s=014E pc=1234 t=150!,14F!");
        row("call, latest byte at 0", "pc=FFFE s=0150 m150=FF m14F=FF", "20 34 12",
                "m150=00 m14F=00 s=014E pc=1234 t=150!,14F!");
        row("long call", "pb=05 pc=0110 s=0150", "22 34 12 06",
                "m150=05 m14F=01 m14E=13 s=014D pb=06 pc=1234 t=150!,14F!,14E!");
        row("call onto its operand", "pc=0140 s=0142", "20 34 12", "m142=01 m141=42 s=0140 pc=1234 t=142!,141!");
        row("long call onto its operand", "pc=0140 s=0143", "22 34 12 06",
                "m143=00 m142=01 m141=43 s=0140 pb=06 pc=1234 t=143!,142!,141!");
        row("return", "pb=05 s=014E m14F=1201", "60", "pc=0113 s=0150 t=14F,150");
        row("return wraps", "s=014E m14F=FFFF", "60", "pc=0 s=0150 t=14F,150");
        row("long return", "s=014D m14E=130105", "6B", "pc=0114 pb=05 s=0150 t=14E,14F,150");
        row("long return wraps", "s=014D m14E=FFFF05", "6B", "pc=0 pb=05 s=0150 t=14E,14F,150");
    }

    private static void flags() {
        row("SEP all", "p=00 x=1234 y=5678", "E2 FF", "p=FF x=34 y=78");
        row("SEP W", "p=00 x=1234 y=5678", "E2 10", "p=10 x=34 y=78");
        row("SEP others", "p=00 x=1234 y=5678 c=9ABC", "E2 2F", "p=2F");
        row("REP all", "p=FF c=1234 x=12", "C2 FF", "p=00");
        row("REP some", "p=FF", "C2 30", "p=CF");
        String[] ops = {"18", "38", "58", "78", "D8", "F8", "B8", "EA"};
        String[] fromAll = {"FE", "FF", "FB", "FF", "F7", "FF", "BF", "FF"};
        String[] fromNone = {"00", "01", "00", "04", "00", "08", "00", "00"};
        for (int i = 0; i < ops.length; i++) {
            row("flag", "p=FF", ops[i], "p=" + fromAll[i]);
            row("flag", "p=00", ops[i], "p=" + fromNone[i]);
        }
    }

    private static void blockMoves() {
        row("MVN", "p=04 pc=0040 x=0130 y=0140 c=0002 m130=5A", "54 01 02",
                "m340=5A x=0131 y=0141 c=0001 db=01 pc=0040 t=130,340!");
        row("MVN, the last byte", "p=06 pc=0040 x=0130 y=0140 m330=5A db=07", "54 02 03",
                "m140=5A x=0131 y=0141 c=FFFF db=02 t=330,140!");
        row("MVN narrow", "p=14 pc=0040 x=FF y=FF m0FF=5A", "54 01 00", "m2FF=5A x=0 y=0 c=FFFF db=01 t=0FF,2FF!");
        row("MVN wide wraps", "p=04 pc=0040 x=FFFF y=FFFF m1FF=5A", "54 01 00",
                "m3FF=5A x=0 y=0 c=FFFF db=01 t=1FF,3FF!");
        row("MVN, C is sixteen bits always", "p=34 pc=0040 c=0100 x=60 y=70 m060=5A", "54 00 00",
                "m070=5A x=61 y=71 c=00FF pc=0040 t=060,070!");
        row("MVP", "p=04 pc=0040 x=0132 y=0142 c=8000 m132=5A", "44 01 02",
                "m342=5A x=0131 y=0141 c=7FFF db=01 pc=0040 t=132,342!");
        row("MVP narrow", "p=14 pc=0040 x=0 y=0 m000=5A", "44 01 00", "m200=5A x=FF y=FF c=FFFF db=01 t=000,200!");
        row("MVP wide wraps", "p=04 pc=0040 x=0 y=0 m000=5A", "44 01 00",
                "m200=5A x=FFFF y=FFFF c=FFFF db=01 t=000,200!");
        row("MVN, three bytes", "p=04 pc=0040 x=0130 y=0140 c=0002 m130=010203", "54 01 02",
                "n=3 m340=010203 x=0133 y=0143 c=FFFF db=01 t=130,340!,131,341!,132,342!");
        row("MVN at the start of a bank", "p=04 pb=02 pc=FFFF c=1 x=0130 y=0140 m130=5A", "54 01 02",
                "m340=5A x=0131 y=0141 c=0 db=01 pc=FFFF t=130,340!");
    }

    private static void breakAndReturn() {
        row("BRK", "pb=05 pc=0110 p=CB x=1234 y=5678 db=01 s=0150 m1E6=3412", "00 77",
                "m150=05 m14F=01 m14E=12 m14D=CB s=014C p=C7 pb=0 pc=1234 t=150!,14F!,14E!,14D!,1E6,1E7");
        row("RTI", "p=04 x=1234 y=5678 s=014C m14D=CB120105", "40",
                "p=CB pc=0112 pb=05 s=0150 t=14D,14E,14F,150");
        row("RTI to narrow", "p=04 x=1234 y=5678 s=014C m14D=10120105", "40",
                "p=10 x=34 y=78 pc=0112 pb=05 s=0150 t=14D,14E,14F,150");
        row("RTI does not add one", "s=014C m14D=34FFFF00", "40", "pc=FFFF s=0150 t=14D,14E,14F,150");
    }
}
