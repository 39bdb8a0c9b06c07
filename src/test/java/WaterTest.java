/** Promises 8 to 11: lake, sweep, seep, dry. */
public final class WaterTest {
    public static void main(String[] args) {
        lake();
        sweepOfARow();
        sweepByLeads();
        sweepUpAndDown();
        sweepEdges();
        seep();
        dry();
        Check.end();
    }

    private static void heads(EarthBanks banks, int y, int... want) {
        for (int x = 0; x < want.length; x++) Check.due("cell(" + x + ", " + y + ", 1)", banks.cell(x, y, 1), want[x]);
    }

    private static void lake() {
        EarthBanks banks = new EarthBanks();
        Check.due("lake(6)", banks.lake(6), 0);
        Check.due("lake(7)", banks.lake(7), EarthBanks.BAD);
        Check.due("lake(-1)", banks.lake(-1), EarthBanks.BAD);
        Check.due("lake(3)", banks.lake(3), 6);
        Check.due("lake(0)", banks.lake(0), 3);
        Check.due("count(6)", banks.count(6), 0);
        banks.lake(5);
        Check.due("dam()", Check.dam(banks, "row 0 aaaaaaaa;"), 8);
        Check.due("count(6) behind dam()", banks.count(6), 5);
    }

    private static void sweepOfARow() {
        EarthBanks banks = Check.damOf("row 0 aaaaaaaa;");
        banks.lake(1);
        Check.due("sweep(0)", banks.sweep(0), EarthBanks.BAD);
        Check.due("sweep(-1)", banks.sweep(-1), EarthBanks.BAD);
        Check.due("sweep(101)", banks.sweep(101), EarthBanks.BAD);
        heads(banks, 0, 0, 0, 0, 0, 0, 0, 0, 0);
        Check.due("sweep(1)", banks.sweep(1), 7);
        heads(banks, 0, 1000, 500, 250, 125, 62, 31, 15, 0);
        Check.due("sweep(1)", banks.sweep(1), 7);
        heads(banks, 0, 1000, 625, 375, 218, 124, 69, 34, 0);
        EarthBanks twice = Check.damOf("row 0 aaaaaaaa;");
        twice.lake(1);
        Check.due("sweep(2)", twice.sweep(2), 7);
        heads(twice, 0, 1000, 625, 375, 218, 124, 69, 34, 0);
        Check.due("sweep(100)", twice.sweep(100), 7);
    }

    private static void sweepByLeads() {
        EarthBanks banks = Check.damOf("zone a 3 1 1;zone b 1 1 1;row 0 aab.....;");
        banks.lake(1);
        Check.due("sweep(1)", banks.sweep(1), 3);
        heads(banks, 0, 1000, 750, 750);
        banks.sweep(1);
        heads(banks, 0, 1000, 937, 937);
        // The lesser LEAD counts whichever of the two it is of.
        banks = Check.damOf("zone a 1 1 1;zone b 9 1 1;zone c 4 1 1;row 0 abc.....;");
        banks.lake(2);
        banks.sweep(1);
        heads(banks, 0, 2000, 400, 400);
    }

    private static void sweepUpAndDown() {
        EarthBanks banks = Check.damOf("row 0 a.......;row 1 a.......;row 2 a.......;");
        banks.lake(1);
        Check.due("sweep(1)", banks.sweep(1), 1);
        Check.due("cell(0, 1, 1)", banks.cell(0, 1, 1), 500);
        Check.due("cell(0, 2, 1)", banks.cell(0, 2, 1), 500);
        banks.lake(3);
        Check.due("sweep(1)", banks.sweep(1), 3);
        Check.due("cell(0, 2, 2)", banks.cell(0, 2, 2), 1000);
        // The two rows: by y from 0 up, in a row by x from 0 up.
        banks = Check.damOf("row 0 aaaaaaaa;row 1 aaaaaaaa;");
        banks.lake(2);
        Check.due("sweep(1)", banks.sweep(1), 8);
        heads(banks, 0, 2000, 666, 222, 74, 24, 8, 2, 0);
        heads(banks, 1, 2000, 888, 370, 148, 57, 21, 7, 3);
    }

    private static void sweepEdges() {
        // No neighbours: HEAD stays, also when THE LAKE is gone from it.
        EarthBanks banks = Check.damOf("row 5 a......a;");
        banks.lake(6);
        Check.due("sweep(1)", banks.sweep(1), 1);
        banks.lake(5);
        Check.due("sweep(1)", banks.sweep(1), 1);
        Check.due("cell(0, 5, 1)", banks.cell(0, 5, 1), 6000);
        Check.due("cell(7, 5, 1)", banks.cell(7, 5, 1), 0);
        // What is GONE is no neighbour, keeps its HEAD and is not WET.
        banks = Check.damOf("zone a 10 1 1;zone b 10 99 1;row 1 baaaaaab;");
        banks.lake(6);
        banks.sweep(100);
        banks.zone(1, 1, 1);
        Check.due("day()", banks.day(), 1);
        int head = banks.cell(7, 1, 1);
        banks.lake(0);
        Check.due("dry below", banks.count(2), 7);
        banks.lake(2);
        Check.due("sweep(1)", banks.sweep(1), 7);
        Check.due("cell(0, 1, 1)", banks.cell(0, 1, 1), 2000);
        Check.due("cell(6, 1, 1)", banks.cell(6, 1, 1), banks.cell(5, 1, 1));
        Check.due("cell(7, 1, 1)", banks.cell(7, 1, 1), head);
        // With THE LAKE at 0 nothing is held at x 0: HEADS go down to the foot.
        banks = Check.damOf("row 0 aaaaaaaa;");
        banks.lake(1);
        banks.sweep(1);
        banks.lake(0);
        banks.sweep(1);
        heads(banks, 0, 500, 375, 250, 156, 93, 54, 27, 0);
        // AIR stays AIR; all AIR sweeps too.
        Check.due("sweep(100) of AIR", new EarthBanks().sweep(100), 0);
    }

    private static void seep() {
        EarthBanks banks = Check.damOf("zone a 99 1 1;zone b 50 1 1;row 0 aaaaaaaa;row 1 aaaaaaab;");
        banks.lake(6);
        banks.sweep(100);
        int due = (99 * banks.cell(6, 0, 1) + 50 * banks.cell(7, 1, 1)) / 1000;
        Check.due("some seeps", due > 10 ? 1 : 0, 1);
        Check.due("seep()", banks.seep(), due);
        banks.zone(0, 0, 60);
        Check.due("seep() by another LEAD", banks.seep(), (60 * banks.cell(6, 0, 1) + 50 * banks.cell(7, 1, 1)) / 1000);
        // 43 times 93 is 3999; 81 times 321 is 26001.
        banks = Check.damOf("row 0 aaaaaaaa;");
        banks.lake(6);
        banks.sweep(1);
        banks.zone(0, 0, 43);
        Check.due("seep() of 3999", banks.seep(), 3);
        banks.sweep(2);
        banks.zone(0, 0, 81);
        Check.due("seep() of 26001", banks.seep(), 26);
        banks = Check.damOf("row 0 aaaaaaa.;row 1 aaaaaaaa;");
        banks.lake(6);
        banks.sweep(100);
        Check.due("seep() without EARTH at the foot", banks.seep(), 0);
    }

    private static void dry() {
        EarthBanks banks = Check.damOf("row 0 aaaaaaaa;");
        banks.lake(1);
        banks.sweep(1);
        Check.due("dry()", banks.dry(), 7);
        heads(banks, 0, 0, 0, 0, 0, 0, 0, 0, 0);
        Check.due("dry() again", banks.dry(), 0);
        Check.due("count(2)", banks.count(2), 0);
        Check.due("THE LAKE stays", banks.count(6), 1);
        // A HEAD of 1 is above 0: at (6, 0) and (7, 1).
        banks = Check.damOf("row 0 aaaaaaaa;row 1 aaaaaaaa;");
        banks.lake(1);
        banks.sweep(1);
        Check.due("cell(6, 0, 1)", banks.cell(6, 0, 1), 1);
        Check.due("cell(7, 1, 1)", banks.cell(7, 1, 1), 1);
        Check.due("dry() of two rows", banks.dry(), 15);
        // HEADS of what is GONE are HEADS too.
        banks = Check.damOf("row 0 a.......;");
        banks.lake(1);
        banks.sweep(1);
        Check.due("day()", banks.day(), 1);
        banks.lake(3);
        banks.sweep(1);
        Check.due("HEAD of what is GONE at THE LAKE", banks.cell(0, 0, 1), 1000);
        Check.due("dry() of what is GONE", banks.dry(), 1);
        Check.due("cell(0, 0, 1)", banks.cell(0, 0, 1), 0);
        Check.due("GONE stays", banks.count(1), 1);
    }
}
