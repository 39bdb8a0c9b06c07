/** Promises 30 to 32: keep, back, count. */
public final class ImageTest {
    public static void main(String[] args) {
        badNumbers();
        keepAndBack();
        nothingElse();
        twoImages();
        count();
        Check.end();
    }

    private static void badNumbers() {
        EarthBanks banks = new EarthBanks();
        int[] bad = {-1, 2, Integer.MIN_VALUE, Integer.MAX_VALUE};
        for (int image : bad) {
            Check.due("keep(" + image + ")", banks.keep(image), EarthBanks.BAD);
            Check.due("back(" + image + ")", banks.back(image), EarthBanks.BAD);
        }
        Check.due("back(0)", banks.back(0), EarthBanks.STATE);
        Check.due("back(1)", banks.back(1), EarthBanks.STATE);
        Check.due("keep(1)", banks.keep(1), 0);
        Check.due("back(0)", banks.back(0), EarthBanks.STATE);
        Check.due("back(1)", banks.back(1), 0);
        Check.due("count(8)", banks.count(8), EarthBanks.BAD);
        Check.due("count(-1)", banks.count(-1), EarthBanks.BAD);
    }

    private static void keepAndBack() {
        EarthBanks banks = Check.damOf("zone a 11 12 13;row 1 aaaaaaaa;");
        banks.lake(6);
        banks.sweep(100);
        banks.day();
        int head = banks.cell(3, 1, 1);
        Check.due("keep(0)", banks.keep(0), 7);
        banks.day();
        banks.lake(2);
        banks.sweep(5);
        banks.zone(0, 0, 90);
        banks.zone(0, 1, 91);
        banks.zone(0, 2, 92);
        Check.dam(banks, "row 0 bbbbbbbb;row 2 bbbbbbbb;");
        Check.due("back(0)", banks.back(0), 7);
        Check.due("CELLS", banks.cell(3, 1, 0), 0);
        Check.due("CELLS", banks.cell(3, 0, 0), EarthBanks.NONE);
        Check.due("HEADS", banks.cell(3, 1, 1), head);
        Check.due("THE LAKE", banks.count(6), 6);
        Check.due("GONE", banks.count(1), 1);
        Check.due("GONE", banks.cell(7, 1, 3), 1);
        Check.due("GONE", banks.cell(6, 1, 3), 0);
        Check.due("LEAD", banks.zone(0, 0, 1), 11);
        Check.due("HOLD", banks.zone(0, 1, 1), 12);
        Check.due("GRAIN", banks.zone(0, 2, 1), 13);
        // What came behind back() leaves the IMAGE as it was.
        banks.dry();
        Check.due("back(0)", banks.back(0), 7);
        Check.due("HEADS again", banks.cell(3, 1, 1), head);
        Check.due("LEAD again", banks.zone(0, 0, 1), 11);
    }

    private static void nothingElse() {
        EarthBanks banks = Check.damOf("row 0 aaaaaaaa;");
        banks.keep(0);
        banks.filter(9);
        banks.slack(7);
        banks.pool(0, 77);
        banks.flood(0, 5);
        banks.gauge(0, 0, 0);
        banks.cause(0, 1);
        banks.work(1, 0, 0, 0, 0);
        banks.load(0, 0, 0);
        banks.type(32, 1);
        banks.back(0);
        Check.due("FILTER", banks.filter(4), 9);
        Check.due("SLACK", banks.slack(4), 7);
        Check.due("GATE", banks.pool(0, 4), 77);
        Check.due("FLOOD", banks.ebb(0), 1);
        for (int what = 3; what < 6; what++) Check.due("count(" + what + ")", banks.count(what), 1);
        Check.due("THE TEXT", banks.count(7), 1);
        Check.due("THE TRACE", banks.trace(), 1);
    }

    private static void twoImages() {
        EarthBanks banks = Check.damOf("row 0 a.......;");
        banks.keep(0);
        Check.dam(banks, "row 0 bb......;");
        banks.keep(1);
        Check.dam(banks, "row 0 ccc.....;");
        Check.due("back(0)", banks.back(0), 1);
        Check.due("cell(0, 0, 0)", banks.cell(0, 0, 0), 0);
        Check.due("back(1)", banks.back(1), 2);
        Check.due("cell(0, 0, 0)", banks.cell(0, 0, 0), 1);
        Check.due("keep(0)", banks.keep(0), 2);
        Check.due("back(0)", banks.back(0), 2);
        Check.due("cell(0, 0, 0)", banks.cell(0, 0, 0), 1);
        // Calls that tell as if leave IMAGES alone.
        banks.breach();
        banks.highest();
        banks.cause(0, 3);
        banks.fits();
        Check.type(banks, "row 0 d");
        banks.dam();
        Check.due("back(1)", banks.back(1), 2);
        Check.due("cell(0, 0, 0)", banks.cell(0, 0, 0), 1);
    }

    private static void count() {
        EarthBanks banks = Check.damOf("row 1 aaaaaaaa;row 3 a.......;");
        banks.lake(6);
        banks.sweep(100);
        banks.day();
        Check.due("count(0)", banks.count(0), 7);
        Check.due("count(1)", banks.count(1), 2);
        Check.due("count(2)", banks.count(2), 7);
        banks.gauge(0, 0, 0);
        banks.cause(0, 1);
        banks.cause(0, 1);
        banks.work(1, 0, 0, 0, 0);
        banks.work(1, 0, 0, 0, 0);
        banks.work(1, 0, 0, 0, 0);
        Check.type(banks, "zone");
        Check.due("count(3)", banks.count(3), 1);
        Check.due("count(4)", banks.count(4), 2);
        Check.due("count(5)", banks.count(5), 3);
        Check.due("count(6)", banks.count(6), 6);
        Check.due("count(7)", banks.count(7), 4);
    }
}
