/** Promises 14 to 17: filter, day, breach, highest. */
public final class GrainTest {
    public static void main(String[] args) {
        filter();
        pushAgainstHold();
        openToAir();
        openToCoarse();
        dayByDay();
        goneNeighbours();
        breachTellsAsIf();
        highest();
        Check.end();
    }

    private static void filter() {
        EarthBanks banks = new EarthBanks();
        Check.due("filter(2)", banks.filter(2), 4);
        Check.due("filter(1)", banks.filter(1), EarthBanks.BAD);
        Check.due("filter(10)", banks.filter(10), EarthBanks.BAD);
        Check.due("filter(9)", banks.filter(9), 2);
        Check.due("filter(4)", banks.filter(4), 9);
    }

    private static void pushAgainstHold() {
        // PUSH 1000 is 20 times 50.
        EarthBanks banks = Check.damOf("zone a 10 50 10;row 0 a.......;");
        banks.lake(1);
        Check.due("day() without water", banks.day(), 0);
        banks.sweep(1);
        banks.zone(0, 1, 51);
        Check.due("breach() at HOLD 51", banks.breach(), EarthBanks.NONE);
        Check.due("day() at HOLD 51", banks.day(), 0);
        banks.zone(0, 1, 50);
        Check.due("breach() at HOLD 50", banks.breach(), 1);
        Check.due("day() at HOLD 50", banks.day(), 1);
        Check.due("count(0)", banks.count(0), 0);
        Check.due("count(1)", banks.count(1), 1);
        Check.due("count(2)", banks.count(2), 0);
        Check.due("day() again", banks.day(), 0);
        Check.due("breach() when all at x 0 is GONE", banks.breach(), EarthBanks.NONE);
    }

    private static void openToAir() {
        // AIR above, below or at the left opens nothing.
        EarthBanks banks = Check.damOf("zone a 10 1 10;row 0 aaaaaaaa;");
        banks.lake(1);
        banks.sweep(100);
        Check.due("PUSH at 6", banks.cell(6, 0, 2) >= 20 ? 1 : 0, 1);
        Check.due("day()", banks.day(), 0);
        Check.due("breach()", banks.breach(), EarthBanks.NONE);
        // AIR at the right does.
        banks = Check.damOf("zone a 10 1 10;row 0 aaa.aaaa;");
        banks.lake(1);
        banks.sweep(100);
        Check.due("day()", banks.day(), 1);
        Check.due("cell(2, 0, 3)", banks.cell(2, 0, 3), 1);
        // So does x 7, where no cell is at the right.
        banks = Check.damOf("zone b 10 99 10;row 1 aaaaaaaa;row 2 bb......;");
        banks.lake(4);
        banks.sweep(100);
        Check.due("day()", banks.day(), 2);
        Check.due("cell(1, 2, 3)", banks.cell(1, 2, 3), 1);
        Check.due("cell(7, 1, 3)", banks.cell(7, 1, 3), 1);
    }

    private static void openToCoarse() {
        for (int filter = 2; filter <= 9; filter++) {
            EarthBanks banks = Check.damOf("zone a 10 1 3;zone b 10 99 30;row 0 aaaaaaab;");
            banks.lake(1);
            banks.sweep(100);
            banks.filter(filter);
            banks.zone(1, 2, 3 * filter);
            Check.due("day() with GRAIN F times", banks.day(), 0);
            banks.zone(1, 2, 3 * filter + 1);
            Check.due("day() with GRAIN above F times", banks.day(), 1);
            Check.due("cell(6, 0, 3)", banks.cell(6, 0, 3), 1);
        }
        // Coarse EARTH above opens, too; it opens to finer grains, not the finer to it.
        EarthBanks banks = Check.damOf("zone a 10 1 1;zone b 10 99 99;row 0 aaaaaaaa;row 1 ..b.....;");
        banks.lake(1);
        banks.sweep(100);
        Check.due("day() under coarse EARTH", banks.day(), 1);
        Check.due("cell(2, 0, 3)", banks.cell(2, 0, 3), 1);
        // At either side.
        banks = Check.damOf("zone a 10 1 1;zone b 10 99 99;row 0 aaabaaaa;");
        banks.lake(1);
        banks.sweep(100);
        Check.due("day() beside coarse EARTH", banks.day(), 2);
        Check.due("cell(2, 0, 3)", banks.cell(2, 0, 3), 1);
        Check.due("cell(4, 0, 3)", banks.cell(4, 0, 3), 1);
        banks = Check.damOf("zone a 10 99 1;zone b 10 1 99;row 0 bbbbbbba;");
        banks.lake(1);
        banks.sweep(100);
        Check.due("day() of coarse EARTH by fine", banks.day(), 0);
    }

    private static void dayByDay() {
        EarthBanks banks = Check.damOf("row 1 aaaaaaaa;");
        banks.lake(6);
        banks.sweep(100);
        int[] heads = new int[8];
        for (int x = 0; x < 8; x++) heads[x] = banks.cell(x, 1, 1);
        Check.due("breach()", banks.breach(), 8);
        for (int day = 1; day <= 8; day++) {
            Check.due("breach() ahead of day " + day, banks.breach(), 9 - day);
            Check.due("day() " + day, banks.day(), 1);
            Check.due("GONE by day " + day, banks.count(1), day);
            Check.due("EARTH by day " + day, banks.count(0), 8 - day);
        }
        Check.due("breach() behind all", banks.breach(), EarthBanks.NONE);
        Check.due("day() behind all", banks.day(), 0);
        for (int x = 0; x < 8; x++) Check.due("HEADS stay at " + x, banks.cell(x, 1, 1), heads[x]);
    }

    private static void goneNeighbours() {
        // (1, 1) goes on day 1 (AIR at its right), and opens what is below it and at its left.
        EarthBanks banks = Check.damOf("zone a 10 1 10;row 0 aaaaaaaa;row 1 aa......;");
        banks.lake(6);
        banks.sweep(100);
        banks.zone(0, 1, 99);
        Check.due("PUSH", banks.cell(1, 1, 2) > 20 * 99 && banks.cell(1, 0, 2) > 20 * 99 ? 1 : 0, 1);
        Check.due("breach()", banks.breach(), 2);
        Check.due("day()", banks.day(), 1);
        Check.due("cell(1, 1, 3)", banks.cell(1, 1, 3), 1);
        Check.due("day()", banks.day(), 2);
        Check.due("cell(0, 1, 3)", banks.cell(0, 1, 3), 1);
        Check.due("cell(1, 0, 3)", banks.cell(1, 0, 3), 1);
    }

    private static void breachTellsAsIf() {
        EarthBanks banks = Check.damOf("row 1 aaaaaaaa;");
        banks.lake(6);
        banks.sweep(100);
        banks.keep(1);
        Check.due("breach()", banks.breach(), 8);
        Check.due("count(0) behind breach()", banks.count(0), 8);
        Check.due("count(1) behind breach()", banks.count(1), 0);
        int head = banks.cell(6, 1, 1);
        Check.due("highest()", banks.highest(), 1);
        Check.due("count(1) behind highest()", banks.count(1), 0);
        Check.due("THE LAKE behind highest()", banks.count(6), 6);
        Check.due("HEAD behind highest()", banks.cell(6, 1, 1), head);
        // A day on which something goes, but never at x 0.
        banks = Check.damOf("zone b 10 99 10;row 1 bbaaaaaa;");
        banks.lake(2);
        banks.sweep(100);
        Check.due("breach() stopped by HOLD", banks.breach(), EarthBanks.NONE);
        Check.due("day() goes all the same", banks.day() > 0 ? 1 : 0, 1);
    }

    private static void highest() {
        EarthBanks banks = Check.damOf("zone a 10 50 10;row 0 a.......;");
        Check.due("highest() at HOLD 50", banks.highest(), 0);
        banks.zone(0, 1, 51);
        Check.due("highest() at HOLD 51", banks.highest(), 1);
        banks.zone(0, 1, 99);
        Check.due("highest() at HOLD 99", banks.highest(), 1);
        Check.due("highest() of a whole row", Check.damOf("zone a 10 99 10;row 0 aaaaaaaa;").highest(), 6);
        // By 40 SWEEPS: what has come by hand does not count.
        banks = Check.damOf("zone a 10 1 10;row 5 a.......;");
        banks.lake(6);
        banks.sweep(1);
        Check.due("breach() by the HEADS that are", banks.breach(), 1);
        Check.due("highest() by HEADS of 0", banks.highest(), 5);
        // From the EARTH that there is.
        banks = Check.damOf("zone a 10 50 10;row 0 a.......;row 5 .aaaaaaa;");
        banks.lake(1);
        banks.sweep(1);
        Check.due("day()", banks.day(), 1);
        Check.due("highest() behind the hole", banks.highest(), 6);
    }
}
