/** Promises 23 to 27: gauge, cause, slack, fits, next. */
public final class GaugeTest {
    private static final String DAM = "zone a 20 10 10;zone b 5 10 10;row 0 aaaabbbb;row 1 .aabbb..;row 2 ..ab....;";

    public static void main(String[] args) {
        gaugeAndCause();
        slack();
        fitsAsSweptByHand();
        slackEdges();
        whatDoesNotCount();
        next();
        Check.end();
    }

    private static void gaugeAndCause() {
        EarthBanks banks = new EarthBanks();
        int[][] badGauges = {{-1, 0, 0}, {8, 0, 0}, {0, -1, 0}, {0, 6, 0}, {0, 0, -1}, {0, 0, 10000}};
        for (int[] g : badGauges) Check.due("gauge(" + g[0] + ", " + g[1] + ", " + g[2] + ")", banks.gauge(g[0], g[1], g[2]), EarthBanks.BAD);
        int[][] badCauses = {{-1, 1}, {6, 1}, {0, 0}, {0, 100}};
        for (int[] c : badCauses) Check.due("cause(" + c[0] + ", " + c[1] + ")", banks.cause(c[0], c[1]), EarthBanks.BAD);
        Check.due("count(3)", banks.count(3), 0);
        Check.due("count(4)", banks.count(4), 0);
        for (int i = 0; i < 8; i++) {
            Check.due("gauge(7, 5, 9999)", banks.gauge(7, 5, 9999), i);
            Check.due("cause(5, 99)", banks.cause(5, 99), i);
            Check.due("count(3)", banks.count(3), i + 1);
            Check.due("count(4)", banks.count(4), i + 1);
        }
        Check.due("gauge(0, 0, 0) when full", banks.gauge(0, 0, 0), EarthBanks.FULL);
        Check.due("gauge(8, 0, 0) when full", banks.gauge(8, 0, 0), EarthBanks.BAD);
        Check.due("cause(0, 1) when full", banks.cause(0, 1), EarthBanks.FULL);
        Check.due("cause(0, 0) when full", banks.cause(0, 0), EarthBanks.BAD);
        Check.due("count(3)", banks.count(3), 8);
        Check.due("fits() of eight, all AIR", banks.fits(), 255);
        Check.due("next(0) without EARTH", banks.next(0), EarthBanks.NONE);
        Check.due("next(1) without EARTH", banks.next(1), EarthBanks.NONE);
    }

    private static void slack() {
        EarthBanks banks = new EarthBanks();
        Check.due("slack(0)", banks.slack(0), 100);
        Check.due("slack(-1)", banks.slack(-1), EarthBanks.BAD);
        Check.due("slack(1000)", banks.slack(1000), EarthBanks.BAD);
        Check.due("slack(999)", banks.slack(999), 0);
        Check.due("slack(1)", banks.slack(1), 999);
    }

    /** HEADS by a CAUSE as calls of the class tell them, on an object of its own. */
    private static int[] headsBy(int zone, int lead) {
        EarthBanks banks = Check.damOf(DAM);
        banks.lake(3);
        banks.zone(zone, 0, lead);
        banks.sweep(40);
        int[] heads = new int[48];
        for (int i = 0; i < 48; i++) heads[i] = banks.cell(i % 8, i / 8, 0) == EarthBanks.NONE ? -1 : banks.cell(i % 8, i / 8, 1);
        return heads;
    }

    private static void fitsAsSweptByHand() {
        EarthBanks banks = Check.damOf(DAM);
        banks.lake(3);
        banks.sweep(3);
        int[] first = headsBy(0, 99);
        int[] second = headsBy(1, 99);
        banks.cause(0, 99);
        banks.cause(1, 99);
        banks.slack(0);
        Check.due("fits() without gauges", banks.fits(), 3);
        int place = -1;
        int apart = -1;
        for (int i = 0; i < 48; i++) {
            if (first[i] >= 0 && Math.abs(first[i] - second[i]) > apart) {
                place = i;
                apart = Math.abs(first[i] - second[i]);
            }
        }
        Check.due("next(0)", banks.next(0), place);
        Check.due("next(1)", banks.next(1), apart);
        int head = banks.cell(2, 1, 1);
        banks.gauge(3, 0, second[3]);
        Check.due("fits() by a gauge", banks.fits(), 2);
        Check.due("next(0) of one", banks.next(0), EarthBanks.NONE);
        Check.due("next(1) of one", banks.next(1), EarthBanks.NONE);
        banks.gauge(2, 1, first[10]);
        Check.due("fits() by two gauges", banks.fits(), 0);
        Check.due("next(0) of none", banks.next(0), EarthBanks.NONE);
        Check.due("HEADS stay", banks.cell(2, 1, 1), head);
        Check.due("LEAD stays", banks.zone(0, 0, 20), 20);
        Check.due("LEAD stays", banks.zone(1, 0, 5), 5);
        // Without water all are 0 apart, whatever was told ahead: the first EARTH.
        EarthBanks without = Check.damOf(DAM);
        without.lake(3);
        without.cause(0, 99);
        without.cause(1, 99);
        Check.due("next(1)", without.next(1), apart);
        without.lake(0);
        Check.due("next(0) without water", without.next(0), 0);
        Check.due("next(1) without water", without.next(1), 0);
        // THE LAKE of now counts.
        banks.lake(0);
        banks.slack(999);
        Check.due("fits() by THE LAKE at 0", banks.fits(), first[10] <= 999 && second[3] <= 999 ? 3 : 0);
    }

    private static void slackEdges() {
        int head = headsBy(0, 99)[4];
        for (int off = -101; off <= 101; off += 101) {
            EarthBanks banks = Check.damOf(DAM);
            banks.lake(3);
            banks.cause(0, 99);
            banks.gauge(4, 0, head + off);
            Check.due("fits() by the first SLACK, off by " + off, banks.fits(), off == 0 ? 1 : 0);
            banks.slack(101);
            Check.due("fits() by SLACK 101, off by " + off, banks.fits(), 1);
        }
    }

    private static void whatDoesNotCount() {
        EarthBanks banks = Check.damOf(DAM);
        banks.cause(2, 50);
        banks.slack(0);
        banks.gauge(0, 5, 9999);
        Check.due("fits() by a gauge in the AIR", banks.fits(), 1);
        banks.gauge(0, 0, 9999);
        Check.due("fits() by a gauge in EARTH", banks.fits(), 0);
        // A gauge where the EARTH is GONE.
        banks = Check.damOf("zone a 10 1 1;row 0 a......a;");
        banks.lake(1);
        banks.cause(0, 9);
        banks.gauge(0, 0, 5);
        Check.due("fits() ahead", banks.fits(), 0);
        banks.sweep(1);
        Check.due("day()", banks.day(), 1);
        Check.due("fits() when GONE", banks.fits(), 1);
    }

    private static void next() {
        EarthBanks banks = Check.damOf("row 2 .....a..;row 3 ..a.....;row 4 .a......;");
        Check.due("next(-1)", banks.next(-1), EarthBanks.BAD);
        Check.due("next(2)", banks.next(2), EarthBanks.BAD);
        Check.due("next(0) of no cause", banks.next(0), EarthBanks.NONE);
        banks.cause(0, 1);
        Check.due("next(0) of one", banks.next(0), EarthBanks.NONE);
        banks.cause(0, 2);
        // All as far apart as one another, by 0: the first by y, then x.
        Check.due("next(0)", banks.next(0), 8 * 2 + 5);
        Check.due("next(1)", banks.next(1), 0);
        banks = Check.damOf("row 2 .....aa.;");
        banks.cause(0, 1);
        banks.cause(0, 2);
        Check.due("next(0)", banks.next(0), 8 * 2 + 5);
        // Causes that don't FIT stay away: only the greatest and the least of those that do.
        int[] first = headsBy(0, 99);
        int[] second = headsBy(1, 99);
        int[] third = headsBy(1, 90);
        banks = Check.damOf(DAM);
        banks.lake(3);
        banks.cause(0, 99);
        banks.cause(1, 99);
        banks.cause(1, 90);
        int slack = Math.abs(second[4] - third[4]);
        banks.slack(slack);
        banks.gauge(4, 0, second[4]);
        Check.due("the first is off", Math.abs(first[4] - second[4]) > slack ? 1 : 0, 1);
        Check.due("fits()", banks.fits(), 6);
        int most = 0;
        for (int i = 0; i < 48; i++) most = Math.max(most, Math.abs(second[i] - third[i]));
        Check.due("next(1) of two in three", banks.next(1), most);
    }
}
