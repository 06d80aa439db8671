/** Every operand of the eight operations with many operands, at both widths, and the wraps of places. */
public final class PlacesTest {
    private static final Rows ROWS = new Rows();
    private static final int STA = 4;
    /** By k: the accumulator and the added flags before, then those after, if the operand is 5A. */
    private static final String[] NARROW = {
        "7700 00 775A 00", "FFFF 00 FF5A 00", "7700 00 775A 00", "7700 00 775A 00",
        null, "7733 00 775A 00", "775A 00 775A 03", "775A 01 7700 03"};
    /** The same if the operand is 125A. */
    private static final String[] WIDE = {
        "0000 00 125A 00", "FFFF 00 125A 00", "0000 00 125A 00", "0000 00 125A 00",
        null, "7733 00 125A 00", "125A 00 125A 03", "125A 01 0000 03"};

    public static void main(String[] args) {
        inBank0();
        inDataBank();
        longNumbers();
        pointers();
        farPointers();
        onStack();
        immediate();
        edgesInBank0();
        edgesOfIndexedPlaces();
        edgesOfPointers();
        ROWS.end();
    }

    private static void inBank0() {
        mode("DIR", 0x05, "d=0100", "23", "", "123", "124", true);
        mode("DIR, DB means nothing", 0x05, "d=0100 db=01", "23", "", "123", "124", false);
        mode("DIR, sum wraps in bank 0", 0x05, "d=FFF0", "20", "", "010", "011", true);
        mode("DIR, word wraps in bank 0", 0x05, "d=FFF0", "0F", "", "1FF", "000", true);
        mode("DIRX", 0x15, "d=0100 x=10", "20", "", "130", "131", false);
        mode("DIRX, wide X", 0x15, "d=0100 x=0233", "20", "", "153", "154", true);
        mode("DIRX, sum wraps in bank 0", 0x15, "d=FF00 x=0200", "10", "", "110", "111", true);
        mode("DIRX, word wraps in bank 0", 0x15, "d=FF00 x=F0", "0F", "", "1FF", "000", false);
    }

    private static void inDataBank() {
        mode("ABS", 0x0D, "db=03", "34 02", "", "234", "235", true);
        mode("ABS, even bank", 0x0D, "db=02", "34 02", "", "034", "035", true);
        mode("ABS, word goes on in the next bank", 0x0D, "db=00", "FF FF", "", "1FF", "200", true);
        mode("ABS, word at the end of memory", 0x0D, "db=FF", "FF FF", "", "3FF", "000", true);
        mode("ABSX", 0x1D, "db=01 x=10", "20 01", "", "330", "331", false);
        mode("ABSX into the next bank", 0x1D, "db=00 x=FF", "80 FF", "", "27F", "280", false);
        mode("ABSX, wide X", 0x1D, "db=00 x=1234", "01 00", "", "035", "036", true);
        mode("ABSX, long sum wraps", 0x1D, "db=FF x=01", "FF FF", "", "000", "001", false);
        mode("ABSY", 0x19, "db=01 y=10", "20 01", "", "330", "331", false);
        mode("ABSY into the next bank", 0x19, "db=00 y=FF", "80 FF", "", "27F", "280", false);
        mode("ABSY, wide Y", 0x19, "db=00 y=1234", "01 00", "", "035", "036", true);
        mode("ABSY, long sum wraps", 0x19, "db=FF y=01", "FF FF", "", "000", "001", false);
    }

    private static void longNumbers() {
        mode("LONG", 0x0F, "db=00", "34 02 05", "", "234", "235", true);
        mode("LONG, even bank", 0x0F, "db=01", "34 02 04", "", "034", "035", true);
        mode("LONG, word goes on in the next bank", 0x0F, "", "FF FF 04", "", "1FF", "200", true);
        mode("LONG, word wraps", 0x0F, "", "FF FF FF", "", "3FF", "000", true);
        mode("LONGX", 0x1F, "x=10", "20 01 05", "", "330", "331", false);
        mode("LONGX into the next bank", 0x1F, "x=FF", "80 FF 04", "", "27F", "280", false);
        mode("LONGX wraps", 0x1F, "x=0002", "FF FF FF", "", "001", "002", true);
    }

    private static void pointers() {
        mode("IND", 0x12, "d=0100 db=01 m120=3402", "20", "120,121", "234", "235", true);
        mode("IND, pointer wraps in bank 0", 0x12, "d=FFF0 db=01 m1FF=34 m000=02 m200=07",
                "0F", "1FF,000", "234", "235", true);
        mode("IND, word goes on in the next bank", 0x12, "d=0100 m120=FFFF", "20", "120,121", "1FF", "200", true);
        mode("INDX", 0x01, "d=0100 db=01 x=10 m130=3402", "20", "130,131", "234", "235", false);
        mode("INDX, wide X, sum wraps", 0x01, "d=FF00 db=01 x=0200 m110=3402", "10", "110,111", "234", "235", true);
        mode("INDX, pointer wraps in bank 0", 0x01, "d=FF00 x=F0 m1FF=34 m000=00",
                "0F", "1FF,000", "034", "035", false);
        mode("INDY", 0x11, "d=0100 db=01 y=10 m120=2401", "20", "120,121", "334", "335", false);
        mode("INDY into the next bank", 0x11, "d=0100 y=FF m120=80FF", "20", "120,121", "27F", "280", false);
        mode("INDY, long sum wraps", 0x11, "d=0100 db=FF y=0002 m120=FFFF", "20", "120,121", "001", "002", true);
    }

    private static void farPointers() {
        mode("FAR", 0x07, "d=0100 m120=340205", "20", "120,121,122", "234", "235", true);
        mode("FAR, pointer wraps in bank 0", 0x07, "d=FFF0 m1FE=3402 m000=05 m200=04",
                "0E", "1FE,1FF,000", "234", "235", true);
        mode("FAR, pointer wraps earlier", 0x07, "d=FFF0 m1FF=34 m000=0205 m200=0404",
                "0F", "1FF,000,001", "234", "235", true);
        mode("FAR, word goes on in the next bank", 0x07, "d=0100 m120=FFFF06", "20", "120,121,122", "1FF", "200", true);
        mode("FARY", 0x17, "d=0100 y=10 m120=240105", "20", "120,121,122", "334", "335", false);
        mode("FARY into the next bank", 0x17, "d=0100 y=FF m120=80FF04", "20", "120,121,122", "27F", "280", false);
        mode("FARY wraps", 0x17, "d=0100 y=0002 m120=FFFFFF", "20", "120,121,122", "001", "002", true);
    }

    private static void onStack() {
        mode("STACK", 0x03, "s=0100 db=01", "05", "", "105", "106", true);
        mode("STACK, sum wraps in bank 0", 0x03, "s=FFF0", "20", "", "010", "011", true);
        mode("STACK, word wraps in bank 0", 0x03, "s=FFF0", "0F", "", "1FF", "000", true);
        mode("STACKY", 0x13, "s=0100 db=01 y=10 m105=2401", "05", "105,106", "334", "335", false);
        mode("STACKY into the next bank", 0x13, "s=0100 y=FF m105=80FF", "05", "105,106", "27F", "280", false);
        mode("STACKY, pointer wraps in bank 0", 0x13, "s=FFF0 db=01 m1FF=34 m000=02 m200=07",
                "0F", "1FF,000", "234", "235", true);
        mode("STACKY, long sum wraps", 0x13, "s=0100 db=FF y=0002 m105=FFFF", "05", "105,106", "001", "002", true);
    }

    private static void immediate() {
        for (int k = 0; k < 8; k++) {
            if (k != STA) {
                String op = op(k, 0x09);
                String[] narrow = NARROW[k].split(" ");
                String[] wide = WIDE[k].split(" ");
                ROWS.row("IMM", before(narrow, "", 0x34), op + " 5A", after(narrow, 0x34));
                ROWS.row("IMM wide", before(wide, "", 0x14), op + " 5A 12", after(wide, 0x14));
            }
        }
        ROWS.row("the width of A is not that of X", "p=24", "A9 5A", "c=005A");
        ROWS.row("IMM across the end of the bank", "p=14 pb=02 pc=FFFE m200=99", "A9 5A 12", "c=125A pc=0001");
        ROWS.row("IMM across the end of an odd bank", "pb=03 pc=FFFF", "A9 5A", "c=005A pc=0001");
    }

    /** Sums in bank 0 are addresses: the first place, the last one, the first beyond it, the greatest sum. */
    private static void edgesInBank0() {
        mode("DIR, first", 0x05, "d=0000 db=01", "00", "", "000", "001", false);
        mode("DIR, last", 0x05, "d=FF00 db=01", "FF", "", "1FF", "000", false);
        mode("DIR, beyond", 0x05, "d=FF01 db=01", "FF", "", "000", "001", false);
        mode("DIR, greatest", 0x05, "d=FFFF db=01", "FF", "", "0FE", "0FF", false);
        mode("DIRX, first", 0x15, "d=0000 x=00 db=01", "00", "", "000", "001", false);
        mode("DIRX, last", 0x15, "d=FE01 x=FF db=01", "FF", "", "1FF", "000", false);
        mode("DIRX, beyond", 0x15, "d=FE02 x=FF db=01", "FF", "", "000", "001", false);
        mode("DIRX, greatest, narrow", 0x15, "d=FFFF x=FF db=01", "FF", "", "1FD", "1FE", false);
        mode("DIRX, greatest", 0x15, "d=FFFF x=FFFF db=01", "FF", "", "0FD", "0FE", true);
        mode("DIRX, least X", 0x15, "d=0100 x=0000 db=01", "23", "", "123", "124", true);
        mode("DIR, word beyond a page", 0x05, "d=0100 db=01", "FF", "", "1FF", "000", false);
        mode("DIRX, beyond a page", 0x15, "d=0100 x=FF db=01", "81", "", "080", "081", false);
        mode("DIRX, beyond a page, wide X", 0x15, "d=0100 x=00FF db=01", "81", "", "080", "081", true);
        mode("STACK, beyond a page", 0x03, "s=01F0 db=01", "20", "", "010", "011", false);
        mode("STACK, first", 0x03, "s=0000 db=01", "00", "", "000", "001", false);
        mode("STACK, last", 0x03, "s=FF00 db=01", "FF", "", "1FF", "000", false);
        mode("STACK, beyond", 0x03, "s=FF01 db=01", "FF", "", "000", "001", false);
        mode("STACK, greatest", 0x03, "s=FFFF db=01", "FF", "", "0FE", "0FF", false);
    }

    /** Sums of a bank and an address are long numbers: the same edges at the end of a bank and of all banks. */
    private static void edgesOfIndexedPlaces() {
        indexed("ABSX", 0x1D, "x", "", "%s", "");
        indexed("ABSY", 0x19, "y", "", "%s", "");
        indexed("LONGX", 0x1F, "x", "", "%s%s", "");
        indexed("INDY", 0x11, "y", "d=0100 m120=%s", "20", "120,121");
        indexed("FARY", 0x17, "y", "d=0100 m120=%s%s", "20", "120,121,122");
        indexed("STACKY", 0x13, "y", "s=0100 m120=%s", "20", "120,121");
        mode("ABS, last word of a bank", 0x0D, "db=00", "FE FF", "", "1FE", "1FF", false);
        mode("LONG, first", 0x0F, "db=01", "00 00 00", "", "000", "001", false);
        mode("LONG, last byte", 0x0F, "db=00", "FE FF FF", "", "3FE", "3FF", false);
    }

    /** The texts have room for an address and, if the place is a long one, its bank, the lowest byte first. */
    private static void indexed(String name, int m, String index, String setup, String operand, String pointers) {
        String[][] edges = {
            {"first", "00", "0000", "00", "000", "001"}, {"last of a bank", "02", "00FF", "FF", "1FF", "200"},
            {"beyond a bank", "02", "01FF", "FF", "200", "201"}, {"last of an odd bank", "03", "00FF", "FF", "3FF", "000"},
            {"beyond an odd bank", "03", "01FF", "FF", "000", "001"}, {"last of all", "FF", "00FF", "FF", "3FF", "000"},
            {"beyond all", "FF", "01FF", "FF", "000", "001"}, {"greatest, narrow", "FF", "FFFF", "FF", "0FE", "0FF"},
            {"greatest of a bank", "02", "FFFF", "FFFF", "3FE", "3FF"}, {"greatest", "FF", "FFFF", "FFFF", "1FE", "1FF"}};
        for (String[] edge : edges) {
            String where = String.format(setup, edge[2], edge[1]) + " db=" + edge[1] + " " + index + "=" + edge[3];
            mode(name + ", " + edge[0], m, where, String.format(operand, edge[2], edge[1]), pointers,
                    edge[4], edge[5], edge[3].length() == 4);
        }
    }

    /** The bytes of a pointer are in bank 0, where their addresses wrap; what it points to is a long number. */
    private static void edgesOfPointers() {
        mode("IND, pointer beyond", 0x12, "d=FF01 db=01 m000=3402", "FF", "000,001", "234", "235", false);
        mode("IND, greatest pointer", 0x12, "d=FFFF db=01 m0FE=3402", "FF", "0FE,0FF", "234", "235", false);
        mode("IND, last of all", 0x12, "d=0100 db=FF m120=FFFF", "20", "120,121", "3FF", "000", false);
        mode("IND, pointer beyond a page", 0x12, "d=0000 db=01 m0FF=3402", "FF", "0FF,100", "234", "235", false);
        mode("INDX, pointer beyond a page", 0x01, "d=0100 x=FF db=01 m080=3402", "81", "080,081", "234", "235", false);
        mode("INDX, pointer over a page's end", 0x01, "d=0000 x=80 db=01 m0FF=3402",
                "7F", "0FF,100", "234", "235", false);
        mode("INDY, pointer over a page's end", 0x11, "d=0000 y=10 db=01 m0FF=2401",
                "FF", "0FF,100", "334", "335", false);
        mode("FAR, pointer over a page's end", 0x07, "d=0000 m0FF=340205", "FF", "0FF,100,101", "234", "235", false);
        mode("STACKY, pointer over a page's end", 0x13, "s=0100 db=01 y=10 m1FF=24 m000=01",
                "FF", "1FF,000", "334", "335", false);
        mode("INDX, pointer beyond", 0x01, "d=FE02 x=FF db=01 m000=3402", "FF", "000,001", "234", "235", false);
        mode("INDX, greatest pointer", 0x01, "d=FFFF x=FFFF db=01 m0FD=3402", "FF", "0FD,0FE", "234", "235", true);
        mode("INDX, last of a bank", 0x01, "d=0100 x=10 db=02 m130=FFFF", "20", "130,131", "1FF", "200", false);
        mode("INDX, last of all", 0x01, "d=0100 x=10 db=FF m130=FFFF", "20", "130,131", "3FF", "000", false);
        mode("INDY, pointer last", 0x11, "d=FF00 db=01 y=10 m1FF=24 m000=01 m200=77", "FF", "1FF,000", "334", "335", false);
        mode("INDY, pointer beyond", 0x11, "d=FF01 db=01 y=10 m000=2401", "FF", "000,001", "334", "335", false);
        mode("FAR, pointer beyond", 0x07, "d=FF01 m000=340205", "FF", "000,001,002", "234", "235", false);
        mode("FAR, greatest pointer", 0x07, "d=FFFF m0FE=340205", "FF", "0FE,0FF,100", "234", "235", false);
        mode("FAR, last of all", 0x07, "d=0100 m120=FFFFFF", "20", "120,121,122", "3FF", "000", false);
        mode("FARY, pointer wraps", 0x17, "d=FFF0 y=10 m1FE=2401 m000=05 m200=04",
                "0E", "1FE,1FF,000", "334", "335", false);
        mode("FARY, pointer wraps earlier", 0x17, "d=FFF0 y=10 m1FF=24 m000=0105 m200=7704",
                "0F", "1FF,000,001", "334", "335", false);
        mode("STACKY, pointer beyond", 0x13, "s=FF01 db=01 y=10 m000=2401", "FF", "000,001", "334", "335", false);
        mode("STACKY, greatest pointer", 0x13, "s=FFFF db=01 y=10 m0FE=2401", "FF", "0FE,0FF", "334", "335", false);
    }

    /** The code stands at 0040, where no place of these rows is. */
    private static void mode(String name, int m, String setup, String operand, String pointers,
            String first, String second, boolean wideIndex) {
        String comma = pointers.isEmpty() ? "" : ",";
        int flags = wideIndex ? 0x04 : 0x14;
        String all = setup + " pc=0040 ";
        for (int k = 0; k < 8; k++) {
            String code = op(k, m) + operand;
            String one = " t=" + pointers + comma + first;
            String two = one + "," + second;
            if (k == STA) {
                ROWS.row(name + " STA", all + "c=775A p=" + hex(flags | 0x20), code,
                        "m" + first + "=5A" + one + "!");
                ROWS.row(name + " wide STA", all + "c=125A p=" + hex(flags), code,
                        "m" + first + "=5A m" + second + "=12" + one + "!," + second + "!");
                continue;
            }
            String[] narrow = NARROW[k].split(" ");
            String[] wide = WIDE[k].split(" ");
            String data = all + "m" + first + "=5A m" + second + "=12";
            ROWS.row(name, before(narrow, data, flags | 0x20), code, after(narrow, flags | 0x20) + one);
            ROWS.row(name + " wide", before(wide, data, flags), code, after(wide, flags) + two);
        }
    }

    private static String before(String[] kind, String data, int flags) {
        return data + " c=" + kind[0] + " p=" + hex(flags | Integer.parseInt(kind[1], 16));
    }

    private static String after(String[] kind, int flags) {
        return "c=" + kind[2] + " p=" + hex(flags | Integer.parseInt(kind[3], 16));
    }

    private static String op(int k, int m) {
        return String.format("%02X", 32 * k + m);
    }

    private static String hex(int number) {
        return Integer.toHexString(number);
    }
}
