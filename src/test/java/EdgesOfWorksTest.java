/** Edges of promises 28 and 29: WORKS, CHEAPEST. */
public final class EdgesOfWorksTest {
    private static final int BERM = 0, DRAIN = 1;
    /** From 7 at 0: MARGIN 100 times HOLD; from 7 at 1: 9999. */
    private static final String TWO = "row 0 .......a;row 1 .......a;";

    public static void main(String[] args) {
        numbersOfABerm();
        numbersOfADrain();
        kindsAndPrices();
        worksAreFull();
        aims();
        noWay();
        withoutWorks();
        moreAheadOfHalving();
        columnOfABerm();
        bermsTogether();
        waysOfSeveralColumns();
        drains();
        leastPrice();
        leastSet();
        allEight();
        Check.end();
    }

    private static void cheapest(Run run, int aim, int price, int set) {
        run.due(price, "cheapest", aim, 0).due(set, "cheapest", aim, 1);
    }

    private static void none(Run run, int aim) {
        cheapest(run, aim, Run.NONE, Run.NONE);
    }

    private static void numbersOfABerm() {
        Check.says("(BERM: column, 0, so much more, 1 .. 99; DRAIN: CELL, 0). BAD; FULL.");
        Run run = new Run();
        int[][] bad = {
            {-1, 0, 1}, {8, 0, 1}, {0, -1, 1}, {0, 1, 1}, {0, 5, 1}, {7, 1, 99}, {0, 0, 0}, {0, 0, 100}, {0, 0, -1}, {0, 0, 257}, {8, 1, 0},
            {Integer.MIN_VALUE, 0, 1}, {Integer.MAX_VALUE, 0, 1}, {0, Integer.MIN_VALUE, 1}, {0, 1 << 29, 1}, {0, 0, Integer.MIN_VALUE}, {0, 0, Integer.MAX_VALUE},
        };
        for (int[] w : bad) run.due(Run.BAD, "work", BERM, w[0], w[1], w[2], 5);
        run.due(0, "count", 5).due(0, "work", BERM, 0, 0, 1, 5).due(1, "work", BERM, 7, 0, 99, 5).due(2, "count", 5);
    }

    private static void numbersOfADrain() {
        Check.says("(BERM: column, 0, so much more, 1 .. 99; DRAIN: CELL, 0). BAD; FULL.");
        Run run = new Run();
        int[][] bad = {
            {-1, 0, 0}, {8, 0, 0}, {0, -1, 0}, {0, 6, 0}, {0, 0, 1}, {0, 0, -1}, {7, 5, 99}, {8, 6, 1}, {0, 0, 256},
            {Integer.MIN_VALUE, 0, 0}, {0, Integer.MAX_VALUE, 0}, {0, 1 << 29, 0}, {0, 0, Integer.MIN_VALUE},
        };
        for (int[] w : bad) run.due(Run.BAD, "work", DRAIN, w[0], w[1], w[2], 5);
        run.due(0, "count", 5).due(0, "work", DRAIN, 0, 0, 0, 5).due(1, "work", DRAIN, 7, 5, 0, 5).due(2, "work", DRAIN, 0, 5, 0, 5).due(3, "count", 5);
    }

    private static void kindsAndPrices() {
        Check.says("WORKS (8 at most): 0 BERM");
        Run run = new Run();
        for (int kind : new int[] {-1, 2, 256, Integer.MIN_VALUE, Integer.MAX_VALUE}) run.due(Run.BAD, "work", kind, 0, 0, 1, 5).due(Run.BAD, "work", kind, 0, 0, 0, 5);
        Check.says("They have a PRICE 0 .. 999.");
        for (int price : new int[] {-1, 1000, 65536, Integer.MIN_VALUE, Integer.MAX_VALUE}) run.due(Run.BAD, "work", BERM, 0, 0, 1, price).due(Run.BAD, "work", DRAIN, 0, 0, 0, price);
        run.due(0, "count", 5).due(0, "work", BERM, 0, 0, 1, 0).due(1, "work", BERM, 0, 0, 1, 999).due(2, "work", DRAIN, 0, 0, 0, 0).due(3, "work", DRAIN, 0, 0, 0, 999);
        // The PRICES are kept as they are.
        run = Run.ofDam(TWO).does("work", BERM, 7, 0, 1, 999);
        cheapest(run, 1100, 999, 1);
        run.does("work", BERM, 7, 0, 1, 0);
        cheapest(run, 1100, 0, 2);
        cheapest(run, 1200, 999, 3);
    }

    private static void worksAreFull() {
        Check.says("WORKS (8 at most)");
        Run run = Run.ofDam(TWO);
        for (int i = 0; i < 8; i++) run.due(i, "work", i % 2, i % 2 == 0 ? 7 : i, 0, 1 - i % 2, 1).due(i + 1, "count", 5);
        run.due(Run.FULL, "work", BERM, 7, 0, 99, 0).due(Run.FULL, "work", DRAIN, 7, 5, 0, 0).due(8, "count", 5);
        // Four BERMS of 1, and no more than these.
        cheapest(run, 1400, 4, 0x55);
        none(run, 1401);
        Check.says("Refused, and nothing changes, the first of these: BAD");
        run.due(Run.BAD, "work", 2, 0, 0, 1, 0).due(Run.BAD, "work", BERM, 8, 0, 1, 0).due(Run.BAD, "work", BERM, 0, 1, 1, 0).due(Run.BAD, "work", BERM, 0, 0, 0, 0);
        run.due(Run.BAD, "work", BERM, 0, 0, 1, 1000).due(Run.BAD, "work", DRAIN, 0, 6, 0, 0).due(Run.BAD, "work", DRAIN, 0, 0, 1, 0).due(8, "count", 5);
    }

    private static void aims() {
        Check.says("CHEAPEST set by which LEAST is an AIM (0 .. 9999) at least");
        Run run = Run.ofDam(TWO).does("work", BERM, 7, 0, 10, 3);
        for (int aim : new int[] {-1, 10000, 65536, Integer.MIN_VALUE, Integer.MAX_VALUE}) {
            run.due(Run.BAD, "cheapest", aim, 0).due(Run.BAD, "cheapest", aim, 1);
            new Run().due(Run.BAD, "cheapest", aim, 0);
        }
        cheapest(run, 0, 0, 0);
        cheapest(run, 1000, 0, 0);
        cheapest(run, 1001, 3, 1);
        cheapest(run, 2000, 3, 1);
        none(run, 2001);
        none(run, 9999);
        // 9999 is the most a MARGIN can be, and is reached: REST 100 by DRIVE 1.
        run.does("work", BERM, 7, 0, 80, 4);
        cheapest(run, 9999, 7, 3);
        // MARGIN 0 is 0 at least.
        run = Run.ofDam("zone a 10 1 1;row 1 aaaaaaaa;row 2 .......a;").does("lake", 6).due(9, "sweep", 100).due(0, "least", -1);
        cheapest(run, 0, 0, 0);
        none(run, 1);
        Check.says("CHEAPEST: PRICE (what = 0), the set (1); NONE. BAD.");
        for (int what : new int[] {-1, 2, 256, Integer.MIN_VALUE, Integer.MAX_VALUE}) run.due(Run.BAD, "cheapest", 0, what).due(Run.BAD, "cheapest", 1, what);
    }

    private static void noWay() {
        Check.says("or there is no WAY: its PRICE");
        Run run = new Run();
        cheapest(run, 0, 0, 0);
        cheapest(run, 9999, 0, 0);
        run.does("work", BERM, 7, 0, 1, 5).does("work", DRAIN, 7, 0, 0, 0);
        cheapest(run, 9999, 0, 0);
        run.dam(8, "row 0 aaaaaaa.;row 1 a.......;");
        cheapest(run, 9999, 0, 0);
        // What bore the WAYS is GONE.
        run = Run.ofDam("row 1 aaaaaaaa;row 2 aaaaaaaa;").does("lake", 6).does("sweep", 100);
        none(run, 9999);
        run.due(2, "day");
        cheapest(run, 9999, 0, 0);
    }

    private static void withoutWorks() {
        Check.says("(LEAST and ways() are without WORKS.)");
        Run run = Run.ofDam(TWO).does("work", BERM, 7, 0, 99, 0).does("work", DRAIN, 7, 0, 0, 0);
        run.due(1000, "least", -1).due(1, "ways", 1001).due(0, "ways", 1000).due(7, "least", -2).due(0, "least", 7);
    }

    /** (7, 1) and (7, 2) are WET: from 7 at 1 REST is half of HOLD, and DRIVE 2 times 2. */
    private static Run wet(int hold) {
        return Run.ofDam("zone a 10 " + hold + " 1;row 1 aaaaaaaa;row 2 .......a;").does("lake", 6).due(9, "sweep", 100);
    }

    private static void moreAheadOfHalving() {
        Check.says("in REST HOLD of cells of a column is so much more (ahead of halving)");
        // 9 and 1 is 10, half of it 5: 125. 10 and 1 is 11, half of it 5 still.
        Run run = wet(9).due(100, "least", -1).does("work", BERM, 7, 0, 1, 3);
        cheapest(run, 100, 0, 0);
        cheapest(run, 101, 3, 1);
        run = wet(10).due(125, "least", -1).does("work", BERM, 7, 0, 1, 3);
        none(run, 126);
        // HOLD 1: its half is 0, and with 1 more it is 1.
        run = wet(1).due(0, "least", -1).does("work", BERM, 7, 0, 1, 3);
        cheapest(run, 1, 3, 1);
        cheapest(run, 25, 3, 1);
        none(run, 26);
    }

    private static void columnOfABerm() {
        Check.says("in REST HOLD of cells of a column is so much more");
        // In its own column alone; and at each height of it.
        for (int x = 0; x < 8; x++) {
            Run run = Run.ofDam(TWO).does("work", BERM, x, 0, 5, 3);
            if (x == 7) cheapest(run, 1001, 3, 1);
            else none(run, 1001);
        }
        for (int y = 0; y < 5; y++) {
            // One cell above the height y, times 1 and y.
            Run run = Run.ofDam("row " + y + " .......a;row " + (y + 1) + " .......a;").due(1000 / (1 + y), "least", -1).does("work", BERM, 7, 0, 10, 3);
            cheapest(run, 1000 / (1 + y), 0, 0);
            cheapest(run, 1000 / (1 + y) + 1, 3, 1);
            cheapest(run, 2000 / (1 + y), 3, 1);
            none(run, 2000 / (1 + y) + 1);
        }
        // In REST, not in DRIVE, and not where there is no cell.
        Run run = Run.ofDam("row 0 .......a;").does("work", BERM, 7, 0, 99, 3);
        cheapest(run, 9999, 0, 0);
    }

    private static void bermsTogether() {
        Check.says("0 BERM: in REST HOLD of cells of a column is so much more");
        Run run = Run.ofDam("zone a 10 1 1;row 0 .......a;row 1 .......a;row 2 .......a;row 3 .......a;row 4 .......a;row 5 .......a;");
        // DRIVE 9 from 7 at 2.
        for (int i = 0; i < 8; i++) run.does("work", BERM, 7, 0, 99, 999);
        cheapest(run, 100 * 793 / 9, 7992, 255);
        none(run, 100 * 793 / 9 + 1);
        cheapest(run, 100 * 694 / 9, 6993, 127);
    }

    private static void waysOfSeveralColumns() {
        Check.says("CHEAPEST set by which LEAST is an AIM (0 .. 9999) at least");
        // From 0 on: REST 80 by DRIVE 1, and no other WAY has a DRIVE. A BERM in any of its columns counts.
        for (int x = 0; x < 8; x++) {
            Run run = Run.ofDam("row 0 aaaaaaaa;row 1 a.......;").due(8000, "least", -1).due(0, "least", -2).does("work", BERM, x, 0, 10, 3);
            cheapest(run, 8000, 0, 0);
            cheapest(run, 8001, 3, 1);
            cheapest(run, 9000, 3, 1);
            none(run, 9001);
        }
        // A fall from 2 to 0: 3 above, times 3, REST 20.
        Run run = Run.ofDam("row 0 ......aa;row 1 ......a.;row 2 ......a.;row 3 ......a.;row 4 ......a.;row 5 ......a.;").due(222, "least", -1).does("work", BERM, 7, 0, 10, 3);
        cheapest(run, 222, 0, 0);
        cheapest(run, 223, 3, 1);
        cheapest(run, 333, 3, 1);
        none(run, 334);
        // As high as the one ahead: 3 and 3, one above in column 6.
        run = Run.ofDam("row 3 ......aa;row 4 ......a.;").due(2000, "least", -1).does("work", BERM, 6, 0, 5, 3);
        cheapest(run, 2000, 0, 0);
        cheapest(run, 2500, 3, 1);
        none(run, 2501);
        // Higher than the one ahead is no WAY: from 6 at 2, which has one above it, none goes on at 3.
        run = Run.ofDam("row 2 ......a.;row 3 ......aa;").due(9999, "least", -1);
        for (int aim : new int[] {0, 1, 2, 100, 9999}) cheapest(run, aim, 0, 0);
        // Two WAYS that need two WORKS: from 7 at 0 (1000), and from 5 on by 6 and 7 at 0.
        run = Run.ofDam("zone b 1 1 1;row 0 .....bba;row 1 .....b.a;").due(600, "least", -1).due(5, "least", -2).does("work", BERM, 5, 0, 8, 3).does("work", BERM, 7, 0, 8, 4);
        cheapest(run, 600, 0, 0);
        cheapest(run, 1000, 3, 1);
        cheapest(run, 1001, 7, 3);
        cheapest(run, 1400, 7, 3);
        none(run, 1401);
    }

    private static void drains() {
        Check.says("1 DRAIN: in DRIVE and REST a CELL is not WET.");
        // In DRIVE: (7, 2) counts once, so 5 by 2. In REST: 10 by 4, then 10 by 2.
        Run run = wet(10).does("work", DRAIN, 7, 2, 0, 3);
        cheapest(run, 250, 3, 1);
        none(run, 251);
        run = wet(10).does("work", DRAIN, 7, 1, 0, 3);
        cheapest(run, 250, 3, 1);
        none(run, 251);
        run.does("work", DRAIN, 7, 2, 0, 4);
        // From 6 on: 5 and 10 by 2 is more than 10 by 2.
        cheapest(run, 500, 7, 3);
        none(run, 501);
        // The same twice is the same; at AIR, and where it is not WET, it is nothing.
        run = wet(10).does("work", DRAIN, 7, 2, 0, 3).does("work", DRAIN, 7, 2, 0, 2).does("work", DRAIN, 7, 5, 0, 0).does("work", DRAIN, 7, 0, 0, 0);
        cheapest(run, 250, 2, 2);
        none(run, 251);
        run = Run.ofDam(TWO).does("work", DRAIN, 7, 0, 0, 0).does("work", DRAIN, 7, 1, 0, 0);
        none(run, 1001);
        // A place that wraps around is another one: (0, 1) is not (7, 1), nor is (6, 1).
        run = wet(10).does("work", DRAIN, 0, 1, 0, 0).does("work", DRAIN, 6, 1, 0, 0).does("work", DRAIN, 0, 2, 0, 0);
        none(run, 126);
        // What is GONE above is not there, with a DRAIN or without.
        run = Run.ofDam("zone b 10 99 10;row 1 bbbbbbbb;row 2 .......a;").does("lake", 3).does("sweep", 100).due(1, "day").due(1, "cell", 7, 2, 3).does("work", DRAIN, 7, 2, 0, 0);
        cheapest(run, 9999, 0, 0);
    }

    private static void leastPrice() {
        Check.says("CHEAPEST set by which LEAST is an AIM (0 .. 9999) at least");
        // One of 20 for 9, two of 10 for 4 each; then for 5 each.
        Run run = Run.ofDam(TWO).does("work", BERM, 7, 0, 20, 9).does("work", BERM, 7, 0, 10, 4).does("work", BERM, 7, 0, 10, 4);
        cheapest(run, 3000, 8, 6);
        run = Run.ofDam(TWO).does("work", BERM, 7, 0, 20, 9).does("work", BERM, 7, 0, 10, 5).does("work", BERM, 7, 0, 10, 5);
        cheapest(run, 3000, 9, 1);
        // What is not needed is left out, though more would be had.
        cheapest(run, 2000, 5, 2);
        cheapest(run, 4000, 14, 3);
        cheapest(run, 5000, 19, 7);
        none(run, 5001);
    }

    private static void leastSet() {
        Check.says("of several the least set (bits); NONE.");
        Run run = Run.ofDam(TWO).does("work", BERM, 7, 0, 10, 5).does("work", BERM, 7, 0, 10, 5).does("work", BERM, 7, 0, 20, 5).does("work", BERM, 7, 0, 20, 10);
        cheapest(run, 2000, 5, 1);
        cheapest(run, 3000, 5, 4);
        // 4 and 1 (bits 5) and 4 and 2 (6) for 10, and 3 alone (8), which has 20 only.
        cheapest(run, 4000, 10, 5);
        // WORKS for nothing stay out of the set where they bring nothing.
        run = Run.ofDam(TWO).does("work", BERM, 0, 0, 99, 0).does("work", BERM, 7, 0, 10, 0).does("work", BERM, 7, 0, 10, 0);
        cheapest(run, 1000, 0, 0);
        cheapest(run, 2000, 0, 2);
        cheapest(run, 3000, 0, 6);
        none(run, 3001);
        // 1 and 2 for 6 (bits 3) ahead of 3 for 6 (bits 4).
        run = Run.ofDam(TWO).does("work", BERM, 7, 0, 10, 3).does("work", BERM, 7, 0, 10, 3).does("work", BERM, 7, 0, 20, 6);
        cheapest(run, 3000, 6, 3);
    }

    private static void allEight() {
        Check.says("the set (1); NONE. BAD.");
        for (int i = 0; i < 8; i++) {
            Run run = Run.ofDam(TWO);
            for (int j = 0; j < 8; j++) run.does("work", BERM, 7, 0, j == i ? 11 : 10, 7);
            cheapest(run, 2100, 7, 1 << i);
        }
    }
}
