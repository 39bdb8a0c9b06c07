/** Promises 28 and 29: work, cheapest. */
public final class WorkTest {
    public static void main(String[] args) {
        work();
        berms();
        tiesAndPrices();
        drains();
        noWay();
        Check.end();
    }

    private static void work() {
        EarthBanks banks = new EarthBanks();
        int[][] bad = {
            {-1, 0, 0, 0, 0}, {2, 0, 0, 0, 0}, {-1, 0, 0, 1, 0}, {2, 0, 0, 1, 0}, {0, -1, 0, 1, 0}, {0, 8, 0, 1, 0}, {0, 0, 1, 1, 0}, {0, 0, -1, 1, 0},
            {0, 0, 0, 0, 0}, {0, 0, 0, 100, 0}, {0, 0, 0, 1, -1}, {0, 0, 0, 1, 1000}, {1, -1, 0, 0, 0}, {1, 8, 0, 0, 0},
            {1, 0, -1, 0, 0}, {1, 0, 6, 0, 0}, {1, 0, 0, 1, 0}, {1, 0, 0, -1, 0}, {1, 0, 0, 0, 1000}, {1, 0, 0, 0, -1},
        };
        for (int[] w : bad) {
            Check.due("work(" + w[0] + ", " + w[1] + ", " + w[2] + ", " + w[3] + ", " + w[4] + ")", banks.work(w[0], w[1], w[2], w[3], w[4]), EarthBanks.BAD);
        }
        Check.due("count(5)", banks.count(5), 0);
        for (int i = 0; i < 8; i++) {
            int answer = i % 2 == 0 ? banks.work(0, i, 0, 99, 999) : banks.work(1, i, 5, 0, 0);
            Check.due("work number " + i, answer, i);
            Check.due("count(5)", banks.count(5), i + 1);
        }
        Check.due("work(0, 0, 0, 1, 0) when full", banks.work(0, 0, 0, 1, 0), EarthBanks.FULL);
        Check.due("work(0, 0, 0, 0, 0) when full", banks.work(0, 0, 0, 0, 0), EarthBanks.BAD);
        Check.due("cheapest(-1, 0)", banks.cheapest(-1, 0), EarthBanks.BAD);
        Check.due("cheapest(10000, 0)", banks.cheapest(10000, 0), EarthBanks.BAD);
        Check.due("cheapest(0, -1)", banks.cheapest(0, -1), EarthBanks.BAD);
        Check.due("cheapest(0, 2)", banks.cheapest(0, 2), EarthBanks.BAD);
    }

    private static void cheapest(EarthBanks banks, int aim, int price, int set) {
        Check.due("cheapest(" + aim + ", 0)", banks.cheapest(aim, 0), price);
        Check.due("cheapest(" + aim + ", 1)", banks.cheapest(aim, 1), set);
    }

    private static void berms() {
        // Height 0 has MARGIN 100 times HOLD, height 1 has 9999.
        EarthBanks banks = Check.damOf("row 0 .......a;row 1 .......a;");
        cheapest(banks, 1000, 0, 0);
        cheapest(banks, 1001, EarthBanks.NONE, EarthBanks.NONE);
        banks.work(0, 7, 0, 5, 10);
        banks.work(0, 7, 0, 10, 7);
        cheapest(banks, 1000, 0, 0);
        cheapest(banks, 1001, 7, 2);
        cheapest(banks, 1500, 7, 2);
        cheapest(banks, 2000, 7, 2);
        cheapest(banks, 2001, 17, 3);
        cheapest(banks, 2500, 17, 3);
        cheapest(banks, 2501, EarthBanks.NONE, EarthBanks.NONE);
        cheapest(banks, 9999, EarthBanks.NONE, EarthBanks.NONE);
        Check.due("LEAST is without WORKS", banks.least(-1), 1000);
        Check.due("ways() is without WORKS", banks.ways(1001), 1);
        banks.work(0, 6, 0, 99, 0);
        cheapest(banks, 2501, EarthBanks.NONE, EarthBanks.NONE);
        banks.work(0, 7, 0, 89, 999);
        cheapest(banks, 9999, 1006, 10);
    }

    private static void tiesAndPrices() {
        EarthBanks banks = Check.damOf("row 0 .......a;row 1 .......a;");
        for (int i = 0; i < 8; i++) banks.work(0, 7, 0, 10, i < 4 ? 5 : 4);
        cheapest(banks, 1001, 4, 16);
        cheapest(banks, 2001, 8, 48);
        cheapest(banks, 5001, 21, 0xF1);
        cheapest(banks, 9000, 36, 255);
        cheapest(banks, 9001, EarthBanks.NONE, EarthBanks.NONE);
        banks = Check.damOf("row 0 .......a;row 1 .......a;");
        for (int i = 0; i < 3; i++) banks.work(0, 7, 0, 10, 0);
        cheapest(banks, 0, 0, 0);
        cheapest(banks, 1001, 0, 1);
        cheapest(banks, 2001, 0, 3);
        // Dearer as one, cheaper as two.
        banks = Check.damOf("row 0 .......a;row 1 .......a;");
        banks.work(0, 7, 0, 20, 9);
        banks.work(0, 7, 0, 10, 4);
        banks.work(0, 7, 0, 10, 4);
        cheapest(banks, 3000, 8, 6);
    }

    private static EarthBanks wetRow() {
        EarthBanks banks = Check.damOf("row 0 aaaaaaaa;row 1 aaaaaaaa;");
        banks.lake(1);
        banks.sweep(1);
        return banks;
    }

    private static void drains() {
        // From 0 on: 45 by 8; from 1 on 40 by 7, that is 571.
        EarthBanks banks = wetRow();
        banks.work(1, 0, 0, 0, 3);
        cheapest(banks, 562, 0, 0);
        cheapest(banks, 563, 3, 1);
        cheapest(banks, 571, 3, 1);
        cheapest(banks, 572, EarthBanks.NONE, EarthBanks.NONE);
        // A DRAIN where it is not WET brings nothing.
        banks = wetRow();
        banks.work(1, 0, 1, 0, 3);
        cheapest(banks, 563, EarthBanks.NONE, EarthBanks.NONE);
        // HOLD is more ahead of halving: 11 is 5 then, and 12 is 6.
        banks = wetRow();
        banks.work(0, 0, 0, 1, 3);
        cheapest(banks, 563, EarthBanks.NONE, EarthBanks.NONE);
        banks.work(0, 0, 0, 2, 9);
        cheapest(banks, 563, 9, 2);
        // Of what stands above, a DRAIN takes away the one more: DRIVE 2 becomes 1 from 7 on, and REST is 5 by halving.
        banks = Check.damOf("row 1 aaaaaaaa;row 2 .......a;");
        banks.lake(6);
        Check.due("sweep(100)", banks.sweep(100), 9);
        Check.due("least(-1)", banks.least(-1), 125);
        banks.work(1, 7, 2, 0, 1);
        cheapest(banks, 125, 0, 0);
        cheapest(banks, 250, 1, 1);
        cheapest(banks, 251, EarthBanks.NONE, EarthBanks.NONE);
        banks.work(1, 7, 1, 0, 2);
        cheapest(banks, 250, 1, 1);
        cheapest(banks, 251, 3, 3);
        cheapest(banks, 500, 3, 3);
        cheapest(banks, 501, EarthBanks.NONE, EarthBanks.NONE);
    }

    private static void noWay() {
        EarthBanks banks = new EarthBanks();
        cheapest(banks, 9999, 0, 0);
        banks.work(0, 7, 0, 5, 10);
        cheapest(banks, 9999, 0, 0);
        // There is no WAY while column 7 is AIR.
        banks = Check.damOf("row 0 aaaaaaa.;row 1 aaaaaaa.;");
        cheapest(banks, 9999, 0, 0);
        // A WAY without DRIVE has 9999.
        banks = Check.damOf("row 0 aaaaaaaa;");
        cheapest(banks, 9999, 0, 0);
    }
}
