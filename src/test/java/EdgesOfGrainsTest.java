/** Edges of promises 14 to 17: FILTER, LOOSE and OPEN, DAYS, BREACH, HIGHEST. */
public final class EdgesOfGrainsTest {
    public static void main(String[] args) {
        filter();
        pushIsTwentyTimesHold();
        openAtSeven();
        openToAir();
        openToWhatIsGone();
        openToCoarserGrains();
        grainsAtTheirEnds();
        allAtOnce();
        headsStay();
        nothingGoes();
        firstDayOfBreach();
        noBreach();
        toldAsIf();
        highest();
        fortySweeps();
        Check.end();
    }

    private static void filter() {
        Check.says("F: FILTER, 2 .. 9; 4 at first");
        Run run = new Run();
        int was = 4;
        for (int v = 2; v <= 9; v++) {
            run.due(was, "filter", v).due(Run.BAD, "filter", 1).due(Run.BAD, "filter", 10);
            was = v;
        }
        for (int v : new int[] {0, -1, 258, Integer.MIN_VALUE, Integer.MAX_VALUE}) run.due(Run.BAD, "filter", v);
        Check.says("F becomes v: what it was. BAD.");
        run.due(9, "filter", 2).due(2, "filter", 2);
    }

    /** A CELL (1, 0) of ZONE b, open to coarse grains behind it; a SWEEP brings it to a PUSH by the LEADS of a and c. */
    private static Run open(int leadAhead, int leadBehind) {
        String text = "zone a " + leadAhead + " 99 1;zone b 99 99 1;zone c " + leadBehind + " 99 99;row 0 abc.....;";
        return Run.ofDam(text).does("lake", 1).does("sweep", 1);
    }

    private static void pushIsTwentyTimesHold() {
        Check.says("its PUSH is 20 times its HOLD at least, and it is OPEN");
        open(98, 2).due(980, "cell", 1, 0, 2).does("zone", 1, 1, 50).due(0, "day").does("zone", 1, 1, 49).due(1, "day").due(1, "cell", 1, 0, 3);
        open(47, 1).due(979, "cell", 1, 0, 2).does("zone", 1, 1, 49).due(0, "day").does("zone", 1, 1, 48).due(1, "day").due(1, "cell", 1, 0, 3);
        // The least HOLD: PUSH 20 goes, 19 stays, and so does 0.
        open(1, 49).due(20, "cell", 1, 0, 2).does("zone", 1, 1, 1).due(1, "day");
        open(1, 50).due(19, "cell", 1, 0, 2).does("zone", 1, 1, 1).due(0, "day");
        Run.ofDam("zone a 10 1 10;row 0 a......a;").due(0, "day").does("sweep", 1).due(0, "day");
        // The greatest: 1980 by HOLD 99.
        Run.ofDam("zone a 10 99 10;row 1 a.......;").does("lake", 2).does("sweep", 1).due(1000, "cell", 0, 1, 2).due(0, "day");
        Run.ofDam("zone a 10 99 10;row 0 a.......;").does("lake", 2).does("sweep", 1).due(2000, "cell", 0, 0, 2).due(1, "day");
        // PUSH, not HEAD: 1000 at y 1 is none.
        Run.ofDam("zone a 10 1 10;row 0 a.......;row 1 a.......;").does("lake", 1).does("zone", 0, 1, 51).does("sweep", 1).due(0, "day");
    }

    private static void openAtSeven() {
        Check.says("it is OPEN: x is 7");
        Run run = Run.ofDam("zone a 10 1 10;row 1 aaaaaaaa;row 2 aaaaaaaa;").does("lake", 6).does("sweep", 100).due(2, "day");
        run.due(1, "cell", 7, 1, 3).due(1, "cell", 7, 2, 3).due(0, "cell", 6, 1, 3);
        // x 0 is not, nor the ground, nor y 5.
        run = Run.ofDam("zone a 10 1 10;zone b 1 99 10;row 5 aaaaaaab;").does("lake", 6).does("sweep", 100);
        Check.holds("PUSH at x 6", run.call("cell", 6, 5, 2) >= 20);
        run.due(0, "day");
    }

    private static void openToAir() {
        Check.says("or its neighbour with x more by one is AIR");
        Run run = Run.ofDam("zone a 10 1 10;row 2 aa.aaaaa;").does("lake", 6).does("sweep", 100).due(1, "day").due(1, "cell", 1, 2, 3);
        // AIR at the left of (3, 0), above and below opens nothing; the foot has no PUSH.
        run = Run.ofDam("zone a 10 1 10;row 0 ..aaaaaa;row 1 aaa.....;").does("lake", 6).does("sweep", 100).due(1, "day").due(1, "cell", 2, 1, 3);
        Check.holds("PUSH at (3, 0)", run.call("cell", 3, 0, 2) >= 20);
        // AIR at the next row's beginning is no neighbour of x 7, and x 0 is none of what ends the row below.
        run = Run.ofDam("zone a 10 1 10;row 0 aaaaaaaa;").does("lake", 6).does("sweep", 100).due(0, "day");
    }

    private static void openToWhatIsGone() {
        Check.says("or some neighbour is GONE");
        // (2, 2) has AIR at its right and goes first; then what is above, below and at its left, but not at its corners.
        Run run = Run.ofDam("zone a 99 99 10;zone b 1 99 10;row 0 aaabbbbb;row 1 aaabbbbb;row 2 aaa.bbbb;row 3 aaabbbbb;").does("lake", 6).does("sweep", 100);
        run.due(1, "day").due(1, "cell", 2, 2, 3);
        Check.holds("PUSH enough at a corner", run.call("cell", 1, 1, 2) >= 1980 && run.call("cell", 1, 3, 2) >= 1980);
        run.due(3, "day").due(1, "cell", 1, 2, 3).due(1, "cell", 2, 1, 3).due(1, "cell", 2, 3, 3);
        // At its right, too: (2, 0) goes first, under coarse grains.
        run = Run.ofDam("zone a 10 1 10;zone b 10 99 99;row 0 aaaaaaaa;row 1 ..b.....;").does("lake", 1).does("sweep", 100).due(1, "day").due(1, "cell", 2, 0, 3);
        run.due(2, "day").due(1, "cell", 1, 0, 3).due(1, "cell", 3, 0, 3);
        // What is GONE at the row's end is no neighbour of the next row's beginning, though that has a PUSH of 1000.
        run = Run.ofDam("zone a 10 1 1;zone c 10 99 4;row 1 cbbbbbbb;row 2 ac......;").does("zone", 1, 2, 4).does("lake", 3).does("sweep", 100);
        run.due(1000, "cell", 0, 2, 2).due(1, "day").due(1, "cell", 7, 1, 3).due(1, "day").due(1, "cell", 6, 1, 3).due(0, "cell", 0, 2, 3);
    }

    private static void openToCoarserGrains() {
        Check.says("or is EARTH with GRAIN above F times its own");
        for (int filter = 2; filter <= 9; filter++) {
            for (int own : new int[] {1, 2, 99 / filter}) {
                int coarse = filter * own;
                Run run = Run.ofDam("zone a 10 99 " + own + ";zone b 10 99 99;zone c 10 1 " + own + ";row 0 aacbaaaa;").does("lake", 1).does("sweep", 100).does("filter", filter);
                if (coarse <= 99) run.does("zone", 1, 2, coarse).due(0, "day");
                if (coarse < 99) run.does("zone", 1, 2, coarse + 1).due(1, "day").due(1, "cell", 2, 0, 3);
            }
        }
        // At each of four sides: right, left, below, above.
        String zones = "zone a 10 99 1;zone b 10 99 99;zone c 10 1 1;";
        int[][] at = {{2, 0}, {4, 0}, {3, 1}, {3, 0}};
        String[] rows = {"row 0 aacbaaaa;", "row 0 aaabcaaa;", "row 0 aaabaaaa;row 1 aaacaaaa;", "row 0 aaacaaaa;row 1 aaabaaaa;"};
        for (int i = 0; i < rows.length; i++) {
            Run run = Run.ofDam(zones + rows[i]).does("lake", 6).does("sweep", 100).does("zone", 0, 2, 50).does("zone", 2, 2, 13);
            if (i == 2) Check.holds("PUSH at (3, 1)", run.call("cell", 3, 1, 2) >= 20);
            run.due(0, "cell", at[i][0], at[i][1], 3).due(1, "day").due(1, "cell", at[i][0], at[i][1], 3);
        }
        // At the row's end they are no neighbours of the next row's beginning.
        Run run = Run.ofDam("zone a 10 1 1;zone b 10 99 99;zone c 10 99 4;row 1 .......b;row 2 ac......;").does("lake", 3).does("sweep", 9);
        run.due(1000, "cell", 0, 2, 2).due(0, "day").does("zone", 2, 2, 5).due(1, "day").due(1, "cell", 0, 2, 3);
    }

    private static void grainsAtTheirEnds() {
        Check.says("GRAIN above F times its own");
        // 99 is not above 4 times 25; it is above 4 times 24.
        Run run = Run.ofDam("zone a 10 99 25;zone b 10 99 99;zone c 10 1 25;row 0 aacbaaaa;").does("lake", 1).does("sweep", 100).due(0, "day");
        run.does("zone", 2, 2, 24).due(1, "day");
        // Nothing is above 9 times 11, but 9 times 10 and 9 is.
        run = Run.ofDam("zone a 10 99 25;zone b 10 99 99;zone c 10 1 11;row 0 aacbaaaa;").does("lake", 1).does("sweep", 100).does("filter", 9).due(0, "day");
        run.does("zone", 2, 2, 10).due(1, "day");
        // The finer neighbour opens nothing.
        Run.ofDam("zone a 10 99 1;zone b 10 1 99;row 0 abbbbbbb;").does("lake", 1).does("sweep", 100).due(0, "day");
    }

    private static void allAtOnce() {
        Check.says("GONE by days: on a DAY all EARTH goes at once that is LOOSE");
        // Each day one more of the row: what goes today opens what is beside it for tomorrow alone.
        Run run = Run.ofDam("row 1 aaaaaaaa;").does("lake", 6).does("sweep", 100);
        for (int day = 1; day <= 8; day++) run.due(1, "day").due(day, "count", 1).due(8 - day, "count", 0).due(1, "cell", 8 - day, 1, 3);
        run.due(0, "day").due(8, "count", 1);
        // Several on one day: each column's end.
        run = Run.ofDam("row 1 a.......;row 2 a.......;row 3 a.......;").does("lake", 6).does("sweep", 1).due(3, "day").due(0, "day").due(3, "count", 1);
    }

    private static void headsStay() {
        Check.says("HEADS stay as they are.");
        Run run = Run.ofDam("row 1 aaaaaaaa;").does("lake", 6).does("sweep", 100);
        long[] heads = new long[8];
        for (int x = 0; x < 8; x++) heads[x] = run.call("cell", x, 1, 1);
        for (int day = 0; day < 9; day++) run.does("day");
        for (int x = 0; x < 8; x++) run.due(heads[x], "cell", x, 1, 1);
        run.due(8, "dry");
    }

    private static void nothingGoes() {
        Check.says("A DAY goes by: how many CELLS are GONE on it.");
        new Run().due(0, "day").due(0, "count", 1);
        Run.ofDam("row 0 aaaaaaaa;").due(0, "day").does("lake", 6).due(0, "day").does("sweep", 100).due(0, "day").due(0, "count", 1);
        // GONE is GONE once.
        Run.ofDam("row 1 a.......;").does("lake", 6).does("sweep", 1).due(1, "day").due(0, "day").due(1, "count", 1).due(1, "cell", 0, 1, 3);
    }

    private static void firstDayOfBreach() {
        Check.says("BREACH: the first DAY on which EARTH with x 0 goes (1 ..)");
        Run.ofDam("row 1 a.......;").does("lake", 6).does("sweep", 1).due(1, "breach").due(1, "breach");
        Check.says("BREACH as of now; NONE.");
        Run run = Run.ofDam("row 1 aaaaaaaa;").does("lake", 6).does("sweep", 100);
        for (int day = 8; day >= 1; day--) run.due(day, "breach").due(1, "day");
        run.due(Run.NONE, "breach");
        // One at x 0 is GONE already: the next one counts.
        run = Run.ofDam("zone b 10 99 10;row 1 a.......;row 3 b.......;").does("lake", 4).does("sweep", 1).due(1, "breach").due(1, "day").due(Run.NONE, "breach");
        run.does("zone", 1, 1, 50).due(1, "breach").due(1, "day").due(Run.NONE, "breach");
        // A long one, and as many days by day() as it told.
        run = Run.ofDam("zone a 9 1 10;zone b 86 99 10;row 0 aaaaaaba;row 1 aababbaa;row 2 abaabaab;row 3 aabaaaaa;row 4 abaaaaaa;row 5 abaaaaaa;");
        run.does("lake", 6).does("sweep", 60).due(11, "breach");
        for (int day = 1; day <= 11; day++) {
            Check.holds("something goes on day " + day, run.call("day") > 0);
            Check.due("GONE at x 0 by day " + day, goneAtFront(run) > 0 ? 1 : 0, day == 11 ? 1 : 0);
        }
    }

    private static long goneAtFront(Run run) {
        long gone = 0;
        for (int y = 0; y < 6; y++) gone += run.call("cell", 0, y, 3);
        return gone;
    }

    private static void noBreach() {
        Check.says("NONE: none does any more.");
        new Run().due(Run.NONE, "breach");
        Run.ofDam("row 0 aaaaaaaa;").does("lake", 6).does("sweep", 100).due(Run.NONE, "breach");
        // All goes but x 0.
        Run run = Run.ofDam("zone b 10 99 10;row 1 baaaaaaa;").does("lake", 2).does("sweep", 100).due(Run.NONE, "breach");
        long gone = 0;
        for (int day = 0; day < 8; day++) gone += run.call("day");
        Check.due("all but x 0 is GONE", gone, 7);
        run.due(Run.NONE, "breach").due(0, "cell", 0, 1, 3);
        // There is no EARTH at x 0.
        Run.ofDam("row 1 .aaaaaaa;").does("lake", 6).does("sweep", 100).due(Run.NONE, "breach");
    }

    private static void toldAsIf() {
        Check.says("(Told as if: nothing goes but by day().)");
        Run run = Run.ofDam("row 1 aaaaaaaa;").does("lake", 6).does("sweep", 100);
        long head = run.call("cell", 7, 1, 1);
        run.due(8, "breach").due(8, "breach").due(1, "highest").due(0, "count", 1).due(8, "count", 0).due(6, "count", 6).due(head, "cell", 7, 1, 1);
        run.due(1, "day").due(7, "breach").due(1, "count", 1);
    }

    private static void highest() {
        Check.says("HIGHEST; NONE.");
        new Run().due(6, "highest");
        Check.says("HIGHEST: the greatest LAKE 0 .. 6 without a BREACH");
        Run.ofDam("zone a 10 99 10;row 0 aaaaaaaa;").due(6, "highest");
        // AIR at its right, HEAD 1000 times LAKE: 20 times HOLD tells where it ends.
        int[][] rows = {{1, 0}, {50, 0}, {51, 1}, {99, 1}};
        for (int[] row : rows) Run.ofDam("zone a 10 " + row[0] + " 10;row 0 a.......;").due(row[1], "highest");
        for (int y = 0; y < 6; y++) {
            // At y a LAKE of y brings no PUSH, of y and 1 it brings 1000.
            Run.ofDam("zone a 10 50 10;row " + y + " a.......;").due(y, "highest").does("zone", 0, 1, 51).due(Math.min(6, y + 1), "highest");
        }
        Check.says("by HEADS that are 0, then 40 SWEEPS at that LAKE, from the EARTH that there is");
        // HEADS that are there don't count; nor THE LAKE.
        Run run = Run.ofDam("zone a 10 1 10;row 5 a.......;").does("lake", 6).does("sweep", 1).due(1, "breach").due(5, "highest").due(6, "count", 6).due(6000, "cell", 0, 5, 1);
        // What is GONE is no EARTH: nothing is left that could go at x 0.
        run.due(1, "day").due(6, "highest");
        // At 0 there is no PUSH, so it holds whatever the dam.
        Check.says("NONE: not even 0.");
        run = new Run().type("zone a 99 1 1;zone b 99 1 99;");
        for (int y = 0; y < 6; y++) run.type("row " + y + " abababab;");
        run.due(48, "dam").does("lake", 6).does("sweep", 100).due(0, "highest").does("filter", 9).due(0, "highest");
    }

    private static void fortySweeps() {
        Check.says("by HEADS that are 0, then 40 SWEEPS at that LAKE");
        // PUSH at (7, 1), where the row is open, by 39, 40, 41 SWEEPS: 687, 702, 716 at LAKE 2; 1535, 1557, 1578 at 3.
        int[][] pushes = {{2, 687, 702, 716}, {3, 1535, 1557, 1578}};
        for (int[] row : pushes) {
            for (int i = 0; i < 3; i++) Run.ofDam("row 1 aaaaaaaa;").does("lake", row[0]).does("sweep", 39 + i).due(row[1 + i], "cell", 7, 1, 2);
        }
        Run run = Run.ofDam("row 1 aaaaaaaa;").does("zone", 0, 1, 35).due(1, "highest").does("zone", 0, 1, 36).due(2, "highest");
        run.does("zone", 0, 1, 77).due(2, "highest").does("zone", 0, 1, 78).due(3, "highest");
    }
}
