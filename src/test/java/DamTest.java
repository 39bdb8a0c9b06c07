/** Promises 1 to 7 and 33: a new object, type, clear, dam, cell, zone, load, trace. */
public final class DamTest {
    public static void main(String[] args) {
        aNewObject();
        type();
        clear();
        damFaults();
        damItems();
        damIsReadAnew();
        cell();
        zone();
        load();
        Check.end();
    }

    private static void aNewObject() {
        EarthBanks banks = new EarthBanks();
        for (int y = 0; y < 6; y++) {
            for (int x = 0; x < 8; x++) {
                Check.due("new: cell(" + x + ", " + y + ", 0)", banks.cell(x, y, 0), EarthBanks.NONE);
                Check.due("new: cell(" + x + ", " + y + ", 1)", banks.cell(x, y, 1), EarthBanks.STATE);
            }
        }
        for (int what = 0; what < 8; what++) Check.due("new: count(" + what + ")", banks.count(what), 0);
        for (int z = 0; z < 6; z++) {
            for (int what = 0; what < 3; what++) Check.due("new: zone(" + z + ", " + what + ", 9)", banks.zone(z, what, 9), 10);
        }
        Check.due("new: lake(0)", banks.lake(0), 0);
        Check.due("new: filter(4)", banks.filter(4), 4);
        Check.due("new: slack(100)", banks.slack(100), 100);
        Check.due("new: trace()", banks.trace(), 0);
        Check.due("new: seep()", banks.seep(), 0);
        Check.due("new: dry()", banks.dry(), 0);
        Check.due("new: day()", banks.day(), 0);
        Check.due("new: least(-1)", banks.least(-1), EarthBanks.NONE);
        Check.due("new: ways(10000)", banks.ways(10000), 0);
        Check.due("new: breach()", banks.breach(), EarthBanks.NONE);
        Check.due("new: highest()", banks.highest(), 6);
    }

    private static void type() {
        EarthBanks banks = new EarthBanks();
        Check.due("type(0, 0)", banks.type(0, 0), EarthBanks.BAD);
        Check.due("type(0, 9)", banks.type(0, 9), EarthBanks.BAD);
        Check.due("type(0, -1)", banks.type(0, -1), EarthBanks.BAD);
        Check.due("type(0, least)", banks.type(0, Integer.MIN_VALUE), EarthBanks.BAD);
        Check.due("count(7) after BAD", banks.count(7), 0);
        // Bytes above the lowest n stay away, and the highest of the n comes first.
        Check.due("type of 'row ' below others", banks.type(0xFFFFFFFF726F7720L, 4), 4);
        Check.due("type of '0 '", banks.type(0x3020L, 2), 6);
        Check.due("type of 'abcdef..'", banks.type(0x6162636465662E2EL, 8), 14);
        Check.due("type of ';'", banks.type(0x3BL, 1), 15);
        Check.due("dam()", banks.dam(), 6);
        for (int x = 0; x < 8; x++) Check.due("cell(" + x + ", 0, 0)", banks.cell(x, 0, 0), x < 6 ? x : EarthBanks.NONE);

        for (int i = 1; i <= 49; i++) Check.due("type of 8 blanks", banks.type(0x2020202020202020L, 8), 8 * i);
        Check.due("type to 396", banks.type(0x20202020L, 4), 396);
        Check.due("type beyond 400", banks.type(0x2020202020L, 5), EarthBanks.FULL);
        Check.due("count(7) after FULL", banks.count(7), 396);
        Check.due("type to 400", banks.type(0x20202020L, 4), 400);
        Check.due("type(.., 1) when full", banks.type(0x20L, 1), EarthBanks.FULL);
        Check.due("type(.., 9) when full", banks.type(0x20L, 9), EarthBanks.BAD);
        Check.due("dam() of 400 blanks", banks.dam(), 0);
        Check.due("count(7) behind dam()", banks.count(7), 0);
    }

    private static void clear() {
        EarthBanks banks = new EarthBanks();
        Check.due("clear() of none", banks.clear(), 0);
        Check.type(banks, "row 0 aaaaaaaa;!");
        Check.due("clear()", banks.clear(), 16);
        Check.due("clear() again", banks.clear(), 0);
        Check.due("dam() behind clear()", Check.dam(banks, "row 1 aaaaaaaa;"), 8);
        Check.due("cell(0, 0, 0) behind clear()", banks.cell(0, 0, 0), EarthBanks.NONE);
        // Bytes of an earlier text don't come to a shorter one.
        String[] longer = {"row 00000000;", "row 0 aaaaaaaaaaaa;", "row 0 aaaaaaaa;"};
        String[] shorter = {"row 0", "row 0 aaaaaaaa", "row 0 aaaaaaaa"};
        for (int i = 0; i < longer.length; i++) {
            Check.type(banks, longer[i]);
            banks.clear();
            Check.due("dam() of " + shorter[i], Check.dam(banks, shorter[i]), -10 - shorter[i].length());
            banks.clear();
        }
    }

    private static void fault(String text, int place) {
        EarthBanks banks = Check.damOf("zone c 7 8 9;row 2 cc......;");
        Check.type(banks, text);
        Check.due("dam() of \"" + text + "\"", banks.dam(), -10 - place);
        Check.due("THE TEXT behind the fault in \"" + text + "\"", banks.count(7), text.length());
        Check.due("EARTH behind the fault in \"" + text + "\"", banks.count(0), 2);
        Check.due("ZONE c behind the fault in \"" + text + "\"", banks.zone(2, 0, 1), 7);
        Check.due("ZONE a behind the fault in \"" + text + "\"", banks.zone(0, 0, 1), 10);
    }

    private static void stands(String text, int earth) {
        Check.due("dam() of \"" + text + "\"", Check.dam(new EarthBanks(), text), earth);
    }

    private static void damFaults() {
        fault(";", 0);
        fault("zone", 4);
        fault("zone ", 5);
        fault("  zone a  ", 10);
        fault("zone a 1 2 3", 12);
        fault("zone a 1 2 3  ", 14);
        fault("row 0 aaaaaaaa", 14);
        fault("row", 3);
        fault("row 0", 5);
        fault("zon", 0);
        fault("zonea 1 1 1;", 0);
        fault("tone a 1 1 1;", 0);
        fault("bow 0 aaaaaaaa;", 0);
        fault("7", 0);
        fault("  rows 0 aaaaaaaa;", 2);
        fault("zone ab 1 1 1;", 5);
        fault("zone . 1 1 1;", 5);
        fault("zone g 1 1 1;", 5);
        fault("zone z 1 1 1;", 5);
        fault("zone 1 1 1 1;", 5);
        fault("zone ; 1 1 1;", 5);
        fault("zone a 0 1 1;", 7);
        fault("zone a 1 0 1;", 9);
        fault("zone a 1 1 0;", 11);
        fault("zone a 01 1 1;", 7);
        fault("zone a 1 00 1;", 9);
        fault("zone a 1 1 100;", 11);
        fault("zone a 1 1 99999999999999999999;", 11);
        fault("zone a 4294967297 1 1;", 7);
        fault("zone a 1 b 1;", 9);
        fault("zone a 1 1 1 1;", 13);
        fault("zone a 1 1 ;", 11);
        fault("zone a 1 1 -1;", 11);
        fault("row 6 aaaaaaaa;", 4);
        fault("row 00 aaaaaaaa;", 4);
        fault("row 05 aaaaaaaa;", 4);
        fault("row a aaaaaaaa;", 4);
        fault("row 0 7 ;", 6);
        fault("row 0 aaaaaaa;", 6);
        fault("row 0 aaaaaaaaa;", 6);
        fault("row 0 aaaaaaag;", 6);
        fault("row 0 zaaaaaaa;", 6);
        fault("row 0 aaaa aaaa;", 6);
        fault("row 0 aaaaaaaa row 1 aaaaaaaa;", 15);
        fault("row 0 aaaaaaaa;;", 15);
        fault("row 0 aaaaaaaa; row 1 aaaaaaaa; x", 32);
        fault("Row 0 aaaaaaaa;", 0);
        fault("row 0 aaaAaaaa;", 6);
        fault("row 0 aaaaaaaa#;", 14);
        fault("row\t0 aaaaaaaa;", 3);
        fault("row 0 aaaaaaaa;\n", 15);
        fault("row 0 aaaaaaaa;" + (char) 0, 15);
        fault("row 0 aaaaaaaa;" + (char) 255, 15);
        fault((char) 225 + "", 0);
        fault("zone a 1 1 1;".repeat(21), 260);
        fault("zone a 1 1 1;".repeat(20) + "  !", 262);
        fault("zone a 1 1 1;".repeat(19) + "row 9 aaaaaaaa;", 251);
    }

    private static void damItems() {
        stands("", 0);
        stands("   ", 0);
        stands("zone a 1 99 10;", 0);
        stands("zone f 99 1 1 ;", 0);
        stands(" row   5   .aaaaaa.   ;  ", 6);
        stands("row 5 ........;", 0);
        stands("row 0 aaaaaaaa;row 0 ........;", 0);
        stands("row 0 ........;row 0 aaaaaaaa;row 1 a.......;", 9);
        stands("zone a 1 1 1;".repeat(20) + "   ", 0);
        stands("row0aaaaaaaa;", 8);

        EarthBanks banks = Check.damOf("zone b 1 2 3;row 3 abcdef.b;zone b 44 55 66;");
        for (int x = 0; x < 6; x++) Check.due("cell(" + x + ", 3, 0)", banks.cell(x, 3, 0), x);
        Check.due("cell(6, 3, 0)", banks.cell(6, 3, 0), EarthBanks.NONE);
        Check.due("cell(7, 3, 0)", banks.cell(7, 3, 0), 1);
        Check.due("LEAD of b", banks.zone(1, 0, 1), 44);
        Check.due("HOLD of b", banks.zone(1, 1, 1), 55);
        Check.due("GRAIN of b", banks.zone(1, 2, 1), 66);
        Check.due("LEAD of a", banks.zone(0, 0, 1), 10);
    }

    private static void damIsReadAnew() {
        EarthBanks banks = Check.damOf("zone a 20 1 9;row 1 aaaaaaaa;");
        banks.lake(6);
        banks.sweep(100);
        banks.filter(7);
        banks.zone(5, 2, 77);
        Check.due("day()", banks.day(), 1);
        // What was told as if leaves nothing in the next dam.
        banks.highest();
        Check.due("breach()", banks.breach(), 7);
        Check.due("dam() anew", Check.dam(banks, "row 0 aaaaaaaa;"), 8);
        Check.due("GONE anew", banks.count(1), 0);
        Check.due("WET anew", banks.count(2), 0);
        Check.due("HEADS anew", banks.dry(), 0);
        Check.due("cell(0, 1, 0) anew", banks.cell(0, 1, 0), EarthBanks.NONE);
        Check.due("LEAD of a anew", banks.zone(0, 0, 1), 10);
        Check.due("HOLD of a anew", banks.zone(0, 1, 1), 10);
        Check.due("GRAIN of f anew", banks.zone(5, 2, 1), 10);
        Check.due("THE LAKE stays", banks.count(6), 6);
        Check.due("FILTER stays", banks.filter(4), 7);
        Check.due("dam() of no text", banks.dam(), 0);
        Check.due("EARTH of no text", banks.count(0), 0);
    }

    private static void cell() {
        EarthBanks banks = Check.damOf("row 0 aaaaaaaa;row 1 f.......;");
        banks.lake(2);
        banks.sweep(1);
        Check.due("cell(0, 1, 0)", banks.cell(0, 1, 0), 5);
        Check.due("cell(0, 1, 1)", banks.cell(0, 1, 1), 2000);
        Check.due("cell(0, 1, 2)", banks.cell(0, 1, 2), 1000);
        Check.due("cell(0, 0, 2)", banks.cell(0, 0, 2), 2000);
        Check.due("cell(0, 1, 3)", banks.cell(0, 1, 3), 0);
        Check.due("cell(1, 1, 0)", banks.cell(1, 1, 0), EarthBanks.NONE);
        for (int what = 1; what < 4; what++) Check.due("cell(1, 1, " + what + ")", banks.cell(1, 1, what), EarthBanks.STATE);
        Check.due("day()", banks.day(), 1);
        Check.due("cell(0, 1, 0) when GONE", banks.cell(0, 1, 0), 5);
        Check.due("cell(0, 1, 1) when GONE", banks.cell(0, 1, 1), 2000);
        Check.due("cell(0, 1, 2) when GONE", banks.cell(0, 1, 2), 1000);
        Check.due("cell(0, 1, 3) when GONE", banks.cell(0, 1, 3), 1);
        int[][] bad = {{-1, 0, 0}, {8, 0, 0}, {0, -1, 0}, {0, 6, 0}, {0, 0, -1}, {0, 0, 4}, {1, 1, 4}, {Integer.MAX_VALUE, 5, 0}, {0, Integer.MIN_VALUE, 0}};
        for (int[] b : bad) Check.due("cell(" + b[0] + ", " + b[1] + ", " + b[2] + ")", banks.cell(b[0], b[1], b[2]), EarthBanks.BAD);
        // A HEAD below the cell's height is no PUSH.
        banks = Check.damOf("row 0 a.......;row 1 a.......;row 2 a.......;");
        banks.lake(1);
        banks.sweep(1);
        Check.due("cell(0, 1, 1)", banks.cell(0, 1, 1), 500);
        Check.due("cell(0, 1, 2)", banks.cell(0, 1, 2), 0);
    }

    private static void zone() {
        EarthBanks banks = new EarthBanks();
        for (int what = 0; what < 3; what++) {
            Check.due("zone(3, " + what + ", 1)", banks.zone(3, what, 1), 10);
            Check.due("zone(3, " + what + ", 99)", banks.zone(3, what, 99), 1);
            Check.due("zone(3, " + what + ", 100)", banks.zone(3, what, 100), EarthBanks.BAD);
            Check.due("zone(3, " + what + ", 0)", banks.zone(3, what, 0), EarthBanks.BAD);
            Check.due("zone(3, " + what + ", 50)", banks.zone(3, what, 50), 99);
        }
        Check.due("zone(-1, 0, 1)", banks.zone(-1, 0, 1), EarthBanks.BAD);
        Check.due("zone(6, 0, 1)", banks.zone(6, 0, 1), EarthBanks.BAD);
        Check.due("zone(0, -1, 1)", banks.zone(0, -1, 1), EarthBanks.BAD);
        Check.due("zone(0, 3, 1)", banks.zone(0, 3, 1), EarthBanks.BAD);
        Check.due("zone(5, 0, 2)", banks.zone(5, 0, 2), 10);
    }

    private static void load() {
        EarthBanks banks = Check.damOf("zone a 10 59 10;row 0 aaaaaaaa;row 1 aaaaaaaa;");
        banks.lake(4);
        banks.sweep(1);
        // y is 1, PUSH is 3000, HOLD is 59.
        Check.due("load(0, 0, 1)", banks.load(0, 0, 1), 11);
        Check.due("trace()", banks.trace(), 1);
        Check.due("load(1, 0, 1)", banks.load(1, 0, 1), 41);
        Check.due("trace()", banks.trace(), 12);
        Check.due("load(2, 0, 1)", banks.load(2, 0, 1), 28);
        Check.due("trace()", banks.trace(), 123);
        Check.due("load(3, 0, 1)", banks.load(3, 0, 1), 20);
        Check.due("trace()", banks.trace(), 1134);
        Check.due("load(4, 0, 1)", banks.load(4, 0, 1), 6);
        Check.due("trace()", banks.trace(), 11135);
        Check.due("load(-1, 0, 1)", banks.load(-1, 0, 1), EarthBanks.BAD);
        Check.due("load(5, 0, 2)", banks.load(5, 0, 2), EarthBanks.BAD);
        Check.due("load(0, 8, 1)", banks.load(0, 8, 1), EarthBanks.BAD);
        Check.due("load(0, -1, 1)", banks.load(0, -1, 1), EarthBanks.BAD);
        Check.due("load(0, 0, 6)", banks.load(0, 0, 6), EarthBanks.BAD);
        Check.due("load(0, 0, -1)", banks.load(0, 0, -1), EarthBanks.BAD);
        Check.due("load(4, 0, 2)", banks.load(4, 0, 2), EarthBanks.STATE);
        Check.due("trace() behind what was refused", banks.trace(), 11135);
        // A third of 11 is 3, rounded down.
        banks = Check.damOf("row 0 a......a;row 1 a.......;");
        banks.lake(1);
        banks.sweep(1);
        Check.due("load(1, 0, 0)", banks.load(1, 0, 0), 20);
        Check.due("load(1, 0, 1)", banks.load(1, 0, 1), 11);
        Check.due("load(2, 0, 1)", banks.load(2, 0, 1), 8);
        // PUSH 595 by 100 is 5, HOLD 60 by 10 is 6, both rounded down.
        banks = Check.damOf("zone a 25 60 1;zone b 17 1 1;row 0 aab.....;");
        banks.lake(1);
        banks.sweep(1);
        Check.due("cell(1, 0, 2)", banks.cell(1, 0, 2), 595);
        Check.due("load(1, 1, 0)", banks.load(1, 1, 0), 15);
        Check.due("load(4, 1, 0)", banks.load(4, 1, 0), 4);
        // A CELL that is GONE is not AIR.
        EarthBanks holed = Check.damOf("row 0 a.......;");
        holed.lake(1);
        holed.sweep(1);
        Check.due("day()", holed.day(), 1);
        Check.due("load(1, 0, 0) when GONE", holed.load(1, 0, 0), 20);
    }
}
