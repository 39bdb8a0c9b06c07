/** Promises 18 to 22: pool, flood, ebb, route, best. */
public final class FloodTest {
    public static void main(String[] args) {
        pool();
        flood();
        gate();
        spillway();
        overAndTown();
        severalHours();
        best();
        Check.end();
    }

    private static void pool() {
        EarthBanks banks = new EarthBanks();
        int[] first = {50, 1000, 100, 2000, 120, 0};
        for (int what = 0; what < 6; what++) {
            Check.due("pool(" + what + ", 9999)", banks.pool(what, 9999), first[what]);
            Check.due("pool(" + what + ", 10000)", banks.pool(what, 10000), EarthBanks.BAD);
            Check.due("pool(" + what + ", -1)", banks.pool(what, -1), EarthBanks.BAD);
            Check.due("pool(" + what + ", 0)", banks.pool(what, 0), 9999);
        }
        Check.due("pool(-1, 0)", banks.pool(-1, 0), EarthBanks.BAD);
        Check.due("pool(6, 0)", banks.pool(6, 0), EarthBanks.BAD);
    }

    private static void flood() {
        EarthBanks banks = new EarthBanks();
        for (int i = 0; i < 8; i++) {
            for (int hour = 1; hour <= 12; hour++) Check.due("flood(" + i + ", 999)", banks.flood(i, 999), hour);
            Check.due("flood(" + i + ", 0) when full", banks.flood(i, 0), EarthBanks.FULL);
            Check.due("flood(" + i + ", 1000) when full", banks.flood(i, 1000), EarthBanks.BAD);
        }
        Check.due("flood(-1, 0)", banks.flood(-1, 0), EarthBanks.BAD);
        Check.due("flood(8, 0)", banks.flood(8, 0), EarthBanks.BAD);
        Check.due("flood(0, -1)", banks.flood(0, -1), EarthBanks.BAD);
        Check.due("ebb(-1)", banks.ebb(-1), EarthBanks.BAD);
        Check.due("ebb(8)", banks.ebb(8), EarthBanks.BAD);
        Check.due("ebb(3)", banks.ebb(3), 12);
        Check.due("ebb(3) again", banks.ebb(3), 0);
        Check.due("flood(3, 7)", banks.flood(3, 7), 1);
        Check.due("route(3, 9999, 0)", banks.route(3, 9999, 0), 7);
        Check.due("ebb(4)", banks.ebb(4), 12);
        Check.due("ebb(2)", banks.ebb(2), 12);
    }

    private static void route(EarthBanks banks, int flood, int rule, int... want) {
        for (int what = 0; what < 5; what++) {
            Check.due("route(" + flood + ", " + rule + ", " + what + ")", banks.route(flood, rule, what), want[what]);
        }
    }

    private static void gate() {
        EarthBanks banks = new EarthBanks();
        banks.flood(7, 30);
        route(banks, 7, 0, 0, 0, 30, 1, 30);
        route(banks, 7, 30, 0, 0, 30, 1, 30);
        route(banks, 7, 31, 30, 0, 0, 1, 0);
        banks.ebb(7);
        banks.flood(7, 51);
        route(banks, 7, 51, 1, 0, 50, 1, 50);
        banks.ebb(7);
        route(banks, 7, 0, 0, 0, 0, 1, 0);
        Check.due("route(-1, 0, 0)", banks.route(-1, 0, 0), EarthBanks.BAD);
        Check.due("route(8, 0, 0)", banks.route(8, 0, 0), EarthBanks.BAD);
        Check.due("route(0, -1, 0)", banks.route(0, -1, 0), EarthBanks.BAD);
        Check.due("route(0, 10000, 0)", banks.route(0, 10000, 0), EarthBanks.BAD);
        Check.due("route(0, 0, -1)", banks.route(0, 0, -1), EarthBanks.BAD);
        Check.due("route(0, 0, 5)", banks.route(0, 0, 5), EarthBanks.BAD);
    }

    private static void spillway() {
        EarthBanks banks = new EarthBanks();
        banks.flood(0, 0);
        int[][] rows = {{999, 999, 0}, {1000, 1000, 0}, {1001, 1000, 1}, {1002, 1001, 1}, {1003, 1001, 2}, {1198, 1099, 99}, {1199, 1099, 100}, {1300, 1200, 100}};
        for (int[] row : rows) {
            banks.pool(5, row[0]);
            route(banks, 0, 9999, row[1], 0, row[2], 1, row[2]);
        }
        // The gate comes first: 1051 less 50, then half of 1.
        banks.pool(5, 1051);
        route(banks, 0, 1051, 1000, 0, 51, 1, 51);
        // The gate may take it below CREST.
        banks.pool(5, 1020);
        route(banks, 0, 1000, 970, 0, 50, 1, 50);
        banks.pool(2, 0);
        route(banks, 0, 9999, 1020, 0, 0, 1, 0);
    }

    private static void overAndTown() {
        EarthBanks banks = new EarthBanks();
        banks.flood(0, 0);
        banks.pool(1, 9999);
        banks.pool(5, 2000);
        route(banks, 0, 9999, 2000, 0, 0, 1, 0);
        banks.pool(5, 2001);
        route(banks, 0, 9999, 2001, 1, 0, 0, 0);
        // OVER is told by W at the HOUR's end.
        route(banks, 0, 2001, 1951, 0, 50, 1, 50);
        banks.pool(4, 50);
        route(banks, 0, 2001, 1951, 0, 50, 1, 50);
        banks.pool(4, 49);
        route(banks, 0, 2001, 1951, 0, 50, 0, 50);
        // An empty FLOOD has no HOUR that is OVER.
        banks.pool(5, 9999);
        route(banks, 1, 0, 9999, 0, 0, 1, 0);
    }

    private static void severalHours() {
        EarthBanks banks = new EarthBanks();
        banks.pool(5, 900);
        int[] waters = {200, 300, 999, 0};
        for (int water : waters) banks.flood(2, water);
        // 1100: gate 50, spill 25: 1025. 1325: 50, 100: 1175. 2174: 50, 100: 2024, OVER. 2024: 50, 100: 1874.
        route(banks, 2, 1000, 1874, 1, 150, 0, 525);
        // Without the gate: 1100: 50: 1050. 1350: 100: 1250. 2249: 100: 2149, OVER. 2149: 100: 2049, OVER.
        route(banks, 2, 9999, 2049, 2, 100, 0, 350);
    }

    private static void best() {
        EarthBanks banks = new EarthBanks();
        Check.due("best(-1)", banks.best(-1), EarthBanks.BAD);
        Check.due("best(2)", banks.best(2), EarthBanks.BAD);
        Check.due("best(0) of empty ones", banks.best(0), 2000);
        Check.due("best(1) of empty ones", banks.best(1), 8);
        // 200, then 150: only by rules up to 300 the gate keeps it at TOP.
        banks.pool(3, 300);
        banks.flood(5, 200);
        banks.flood(5, 150);
        Check.due("best(0)", banks.best(0), 300);
        Check.due("best(1)", banks.best(1), 8);
        // Another is SAFE by rules above 200 only, and one by none.
        banks.pool(4, 40);
        banks.flood(6, 200);
        Check.due("best(0)", banks.best(0), 2000);
        Check.due("best(1)", banks.best(1), 7);
        banks.pool(4, 50);
        for (int hour = 0; hour < 3; hour++) banks.flood(1, 400);
        Check.due("best(0)", banks.best(0), 300);
        Check.due("best(1)", banks.best(1), 7);
        // By the rule 0 alone.
        banks = new EarthBanks();
        banks.pool(3, 40);
        banks.flood(0, 90);
        Check.due("best(0)", banks.best(0), 0);
        Check.due("best(1)", banks.best(1), 8);
    }
}
