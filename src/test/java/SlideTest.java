/** Promises 12 and 13: least, ways. */
public final class SlideTest {
    public static void main(String[] args) {
        noWay();
        oneColumn();
        falls();
        ties();
        wet();
        fullSlice();
        badNumbers();
        Check.end();
    }

    private static void least(EarthBanks banks, int margin, int start, int... heights) {
        Check.due("least(-1)", banks.least(-1), margin);
        Check.due("least(-2)", banks.least(-2), start);
        for (int k = 0; k < 8; k++) {
            Check.due("least(" + k + ")", banks.least(k), k < start ? EarthBanks.NONE : heights[k - start]);
        }
    }

    private static void noWay() {
        EarthBanks banks = Check.damOf("row 0 aaaaaaa.;row 1 aaaaaaa.;");
        for (int k = -2; k < 8; k++) Check.due("least(" + k + ") without a WAY", banks.least(k), EarthBanks.NONE);
        Check.due("ways(10000) without a WAY", banks.ways(10000), 0);
        // What is GONE bears no WAY.
        banks = Check.damOf("row 1 aaaaaaaa;");
        Check.due("ways(10000)", banks.ways(10000), 8);
        banks.lake(6);
        banks.sweep(100);
        Check.due("day()", banks.day(), 1);
        Check.due("ways(10000) with the foot GONE", banks.ways(10000), 0);
        Check.due("least(-1) with the foot GONE", banks.least(-1), EarthBanks.NONE);
    }

    private static void oneColumn() {
        EarthBanks banks = Check.damOf("row 0 .......a;");
        least(banks, 9999, 7, 0);
        Check.due("ways(9999)", banks.ways(9999), 0);
        Check.due("ways(10000)", banks.ways(10000), 1);
        banks = Check.damOf("row 0 .......a;row 1 .......a;");
        least(banks, 1000, 7, 0);
        Check.due("ways(1000)", banks.ways(1000), 0);
        Check.due("ways(1001)", banks.ways(1001), 1);
        Check.due("ways(10000)", banks.ways(10000), 2);
        Check.due("ways(greatest)", banks.ways(Integer.MAX_VALUE), 2);
        // EARTH above AIR stands above, too.
        banks = Check.damOf("row 0 .......a;row 5 .......a;");
        least(banks, 1000, 7, 0);
        // A MARGIN is rounded down and 9999 at most.
        banks = Check.damOf("zone a 1 99 1;row 0 ......aa;row 1 .......a;");
        least(banks, 9900, 7, 0);
        Check.due("ways(9999)", banks.ways(9999), 1);
        Check.due("ways(10000)", banks.ways(10000), 3);
    }

    private static void falls() {
        // To 0 behind 7: height 1 has 2 above it, and falls by 1: DRIVE 4.
        EarthBanks banks = Check.damOf("row 0 .......a;row 1 .......a;row 2 .......a;row 3 .......a;");
        least(banks, 250, 7, 1);
        Check.due("ways(333)", banks.ways(333), 1);
        Check.due("ways(334)", banks.ways(334), 3);
        // To the next one: height 2 has 3 above it, and falls by 2: DRIVE 9, REST 20; the others have DRIVE 5, 8, 8, 5, 0.
        banks = Check.damOf("row 0 ......aa;row 1 ......a.;row 2 ......a.;row 3 ......a.;row 4 ......a.;row 5 ......a.;");
        least(banks, 222, 6, 2, 0);
        Check.due("ways(250)", banks.ways(250), 1);
        Check.due("ways(251)", banks.ways(251), 3);
        // No height above the next one ahead: row 1 begins at 7 alone, or behind EARTH at 1 or above.
        banks = Check.damOf("row 0 ......a.;row 1 .......a;");
        Check.due("ways(10000)", banks.ways(10000), 1);
        banks = Check.damOf("row 1 ......a.;row 0 .......a;");
        Check.due("ways(10000)", banks.ways(10000), 2);
    }

    private static void ties() {
        least(Check.damOf("row 0 aaaaaaaa;"), 9999, 0, 0, 0, 0, 0, 0, 0, 0, 0);
        // Heights 0 and 1 in column 6 have DRIVE 2 and REST 20 both.
        least(Check.damOf("row 0 ......aa;row 1 ......a.;row 2 ......a.;"), 1000, 6, 0, 0);
        // The same MARGIN from 6 on and from 7 on: the first by x.
        EarthBanks banks = Check.damOf("row 0 ......aa;row 1 ......aa;");
        least(banks, 1000, 6, 0, 0);
        Check.due("ways(1001)", banks.ways(1001), 2);
    }

    private static void wet() {
        EarthBanks banks = Check.damOf("row 0 aaaaaaaa;row 1 aaaaaaaa;");
        banks.lake(1);
        Check.due("sweep(1)", banks.sweep(1), 7);
        // REST 7 times 5 and 10, DRIVE 8.
        least(banks, 562, 0, 0, 0, 0, 0, 0, 0, 0, 0);
        banks.zone(0, 1, 11);
        least(banks, 575, 0, 0, 0, 0, 0, 0, 0, 0, 0);
        // HOLD 1 is 0 when WET, and bears a WAY all the same.
        banks.zone(0, 1, 1);
        least(banks, 12, 0, 0, 0, 0, 0, 0, 0, 0, 0);
        Check.due("ways(10000)", banks.ways(10000), 44);
        // What stands above and is WET counts twice: all but the foot WET.
        banks = Check.damOf("zone a 10 10 1;row 1 aaaaaaaa;row 2 aaaaaaaa;");
        banks.lake(6);
        Check.due("sweep(100)", banks.sweep(100), 16);
        Check.due("HEAD at the end", banks.cell(7, 2, 1) > 2000 ? 1 : 0, 1);
        // From 7: height 1: 2 times 2, REST 5; height 2: 0 above.
        Check.due("ways(126)", banks.ways(126) > 0 ? 1 : 0, 1);
        // From x on at height 1: DRIVE 2 for each but 4 for the last; REST 5 each: the last alone is the least.
        least(banks, 125, 7, 1);
    }

    private static void fullSlice() {
        StringBuilder text = new StringBuilder();
        for (int y = 0; y < 6; y++) text.append("row ").append(y).append(" aaaaaaaa;");
        EarthBanks banks = Check.damOf(text.toString());
        // Over lengths 1 .. 8, as many as there are falling rows of 6 heights.
        Check.due("ways(10000)", banks.ways(10000), 3002);
        // From 7 with height 2: 3 above, times 3; the others: 5, 8, 8, 5.
        least(banks, 111, 7, 2);
        Check.due("ways(0)", banks.ways(0), 0);
    }

    private static void badNumbers() {
        EarthBanks banks = Check.damOf("row 0 aaaaaaaa;");
        Check.due("least(-3)", banks.least(-3), EarthBanks.BAD);
        Check.due("least(8)", banks.least(8), EarthBanks.BAD);
        Check.due("ways(-1)", banks.ways(-1), EarthBanks.BAD);
        Check.due("ways(least)", banks.ways(Integer.MIN_VALUE), EarthBanks.BAD);
        Check.due("least(8) without a WAY", new EarthBanks().least(8), EarthBanks.BAD);
    }
}
