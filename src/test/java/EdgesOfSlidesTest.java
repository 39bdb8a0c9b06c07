/** Edges of promises 12 and 13: WAYS, MARGINS, LEAST. */
public final class EdgesOfSlidesTest {
    public static void main(String[] args) {
        noWay();
        whereAWayBegins();
        heightsFallOrStay();
        earthAtEachHeight();
        cellsAboveTheHeight();
        fallsToTheNext();
        restIsHalvedWhenWet();
        marginIsRoundedDown();
        greatestMargin();
        leastMargin();
        ofSeveralTheFirst();
        numbersOfLeast();
        aims();
        theFullSlice();
        Check.end();
    }

    private static void least(Run run, int margin, int start, int... heights) {
        run.due(margin, "least", -1).due(start, "least", -2);
        for (int k = 0; k < 8; k++) run.due(k < start ? Run.NONE : heights[k - start], "least", k);
    }

    private static void noWay() {
        Check.says("NONE: there is no WAY.");
        String[] without = {"", "row 0 aaaaaaa.;", "row 5 aaaaaaa.;row 0 a.......;"};
        for (String text : without) {
            Run run = Run.ofDam(text).due(0, "ways", 10000).due(0, "ways", Integer.MAX_VALUE);
            for (int k = -2; k < 8; k++) run.due(Run.NONE, "least", k);
        }
        // What is GONE at x 7 bears none.
        Run run = Run.ofDam("row 1 aaaaaaaa;").does("lake", 6).does("sweep", 100).due(8, "ways", 10000).due(1, "day").due(0, "ways", 10000);
        for (int k = -2; k < 8; k++) run.due(Run.NONE, "least", k);
    }

    private static void whereAWayBegins() {
        Check.says("A WAY begins at a column x (0 .. 7) and has for it and all behind it up to 7 a height");
        for (int from = 0; from < 8; from++) {
            String text = "row 0 " + ".".repeat(from) + "a".repeat(8 - from) + ";";
            Run run = Run.ofDam(text).due(8 - from, "ways", 10000);
            least(run, 9999, from, new int[8]);
        }
        // AIR in a column cuts off what is ahead of it.
        Run.ofDam("row 0 aaaa.aaa;").due(3, "ways", 10000).due(5, "least", -2);
        Run.ofDam("row 0 .......a;").due(1, "ways", 10000).due(7, "least", -2);
    }

    private static void heightsFallOrStay() {
        Check.says("0 at least, below the next one ahead or as high");
        Run.ofDam("row 3 ......a.;row 4 .......a;").due(1, "ways", 10000);
        Run.ofDam("row 3 ......a.;row 3 ......aa;").due(2, "ways", 10000);
        Run.ofDam("row 3 ......a.;row 2 .......a;").due(2, "ways", 10000);
        Run.ofDam("row 5 ......a.;row 0 .......a;").due(2, "ways", 10000);
        Run.ofDam("row 0 ......a.;row 5 .......a;").due(1, "ways", 10000);
        // From 7: 6 heights. From 6 and 7: pairs that fall or stay: 21.
        Run run = new Run();
        for (int y = 0; y < 6; y++) run.type("row " + y + " ......aa;");
        run.due(12, "dam").due(6 + 21, "ways", 10000);
    }

    private static void earthAtEachHeight() {
        Check.says("each with EARTH of that height there.");
        Run.ofDam("row 1 ......aa;row 3 ......a.;").due(3, "ways", 10000);
        Run.ofDam("row 1 ......aa;row 3 .......a;").due(3, "ways", 10000);
        // (7, 1) goes: one WAY is left there, at 3 in both columns, and one at 7 alone.
        Run run = Run.ofDam("zone b 10 99 10;row 1 aaaaaaaa;row 3 ......bb;").does("lake", 5).does("sweep", 100).due(1, "day").due(1, "cell", 7, 1, 3);
        run.due(2, "ways", 10000);
    }

    private static void cellsAboveTheHeight() {
        Check.says("how many EARTH cells stand there above that height (and one more for each of them that is WET)");
        // The cell at the height itself is none of them, nor one below it, nor AIR between.
        Run.ofDam("row 0 .......a;row 1 .......a;").due(1000, "least", -1).due(0, "least", 7);
        Run.ofDam("row 0 .......a;row 5 .......a;").due(1000, "least", -1).due(0, "least", 7);
        Run.ofDam("row 5 .......a;").due(9999, "least", -1);
        // WET at (7, 2) and (7, 1): from 7 at height 1 REST 5, DRIVE 2 times 2.
        Run run = Run.ofDam("row 1 aaaaaaaa;row 2 .......a;").does("lake", 6).due(9, "sweep", 100);
        least(run, 125, 7, 1);
        // Not WET any more: REST 10, DRIVE 1 times 2.
        run.due(9, "dry");
        least(run, 500, 7, 1);
        // GONE above: (7, 2) is open at x 7, and (7, 1) holds.
        run = Run.ofDam("zone b 10 99 10;zone c 10 10 10;row 1 bbbbbbbb;row 2 .......c;").does("lake", 3).does("sweep", 100);
        Check.holds("some DRIVE", run.call("least", -1) < 9999);
        run.due(1, "day").due(1, "cell", 7, 2, 3);
        least(run, 9999, 0, 1, 1, 1, 1, 1, 1, 1, 1);
    }

    private static void fallsToTheNext() {
        Check.says("times (1 and how much the height falls to the next one, to 0 behind 7).");
        // Behind 7 it falls to 0: height h has 5 - h above, times 1 + h.
        int[] drives = {5, 8, 9, 8, 5};
        for (int h = 0; h < 5; h++) {
            Run run = new Run();
            for (int y = h; y < 6; y++) run.type("row " + y + " .......a;");
            run.does("dam");
            int worst = h;
            for (int y = h; y < 5; y++) if (drives[y] > drives[worst]) worst = y;
            least(run, 1000 / drives[worst], 7, worst);
        }
        // As high as the next: times 1. DRIVE 1 in column 6, 0 in column 7.
        Run.ofDam("row 0 ......aa;row 1 ......a.;").due(2000, "least", -1);
        // A fall by 5 from 6 to 7: no cell above 5, so DRIVE is 0.
        Run.ofDam("row 0 .......a;row 5 ......a.;").due(9999, "least", -1);
        // A fall by 4: 1 above, times 5, REST 20.
        Run.ofDam("row 0 .......a;row 4 ......a.;row 5 ......a.;").due(400, "least", -1).due(4, "least", 6).due(0, "least", 7);
    }

    private static void restIsHalvedWhenWet() {
        Check.says("REST: the HOLD of the cells at these heights (half of it, rounded down, if WET).");
        Run run = Run.ofDam("row 1 aaaaaaaa;row 2 .......a;").does("lake", 6).due(9, "sweep", 100);
        // DRIVE 4 from 7 at height 1; from 6 on there is one half more, so 7 alone is the least.
        int[][] rows = {{1, 0}, {2, 25}, {3, 25}, {4, 50}, {9, 100}, {10, 125}, {98, 1225}, {99, 1225}};
        for (int[] row : rows) run.does("zone", 0, 1, row[0]).due(row[1], "least", -1);
        run.due(9, "dry");
        run.does("zone", 0, 1, 99).due(4950, "least", -1).does("zone", 0, 1, 1).due(50, "least", -1);
    }

    private static void marginIsRoundedDown() {
        Check.says("MARGIN: 100 times REST by DRIVE, rounded down");
        Run run = Run.ofDam("row 0 .......a;row 1 .......a;row 2 .......a;row 3 .......a;");
        // DRIVES 3, 4, 3, 0.
        least(run, 250, 7, 1);
        run.does("zone", 0, 1, 1).due(25, "least", -1).due(0, "ways", 25).due(1, "ways", 26).due(1, "ways", 33).due(3, "ways", 34);
        run.does("zone", 0, 1, 2).due(50, "least", -1).due(1, "ways", 66).due(3, "ways", 67);
        run.does("zone", 0, 1, 99).due(2475, "least", -1).due(1, "ways", 3300).due(3, "ways", 3301);
    }

    private static void greatestMargin() {
        Check.says("9999 at most, and if DRIVE is 0.");
        // From 7 at 0: 99 by 1. From 6 on: 99 and 1 by 1, that is 10000. From 7 at 1: no DRIVE.
        Run run = Run.ofDam("zone a 1 99 1;zone b 1 1 1;row 0 ......ba;row 1 .......a;").due(9900, "least", -1);
        run.due(0, "ways", 9900).due(1, "ways", 9901).due(1, "ways", 9999).due(3, "ways", 10000).due(3, "ways", 10001).due(3, "ways", Integer.MAX_VALUE);
        // All of them 9999: the first.
        run = Run.ofDam("zone a 1 99 1;row 0 aaaaaaaa;");
        least(run, 9999, 0, new int[8]);
        run.due(0, "ways", 9999).due(8, "ways", 10000);
        // REST 0 and DRIVE 0 is 9999, too: HOLD 1 that is WET, and nothing above.
        run = Run.ofDam("zone a 10 1 1;row 1 aaaaaaaa;").does("lake", 6).due(8, "sweep", 100);
        least(run, 9999, 0, 1, 1, 1, 1, 1, 1, 1, 1);
    }

    private static void leastMargin() {
        Check.says("How many WAYS there are that have a MARGIN below an AIM.");
        // MARGIN 0: HOLD 1 that is WET, under another cell.
        Run run = Run.ofDam("zone a 10 1 1;row 1 aaaaaaaa;row 2 .......a;").does("lake", 6).due(9, "sweep", 100).due(0, "least", -1).due(0, "least", -2);
        // At 1 all along, from each of 8 columns.
        run.due(0, "ways", 0).due(8, "ways", 1).due(9, "ways", 10000);
    }

    private static void ofSeveralTheFirst() {
        Check.says("LEAST: the least MARGIN of all WAYS; of several the first by x where it begins, then by heights from there on.");
        // From 6 on and from 7 on 1000 both.
        least(Run.ofDam("row 0 ......aa;row 1 ......aa;"), 1000, 6, 0, 0);
        // Heights 0 and 1 in column 6 have DRIVE 2 both.
        least(Run.ofDam("row 0 ......aa;row 1 ......a.;row 2 ......a.;"), 1000, 6, 0, 0);
        // At 7, heights 1 and 2 of four above 0: 3 above times 2, 2 above times 3.
        least(Run.ofDam("row 1 .......a;row 2 .......a;row 3 .......a;row 4 .......a;"), 166, 7, 1);
        // The first height is the same, the second decides: 6 at 5, and 7 at 0 or 5 have no DRIVE.
        least(Run.ofDam("row 0 .......a;row 5 ......aa;"), 1000, 7, 0);
    }

    private static void numbersOfLeast() {
        Check.says("LEAST: its MARGIN (k = -1), the column where it begins (k = -2), its height in column k");
        Run run = Run.ofDam("row 3 .....aaa;").due(9999, "least", -1).due(5, "least", -2).due(3, "least", 5).due(3, "least", 7);
        Check.says("NONE (also of a column ahead of its beginning). BAD.");
        for (int k = 0; k < 5; k++) run.due(Run.NONE, "least", k);
        for (int k : new int[] {-3, 8, 9, -4, 256, -256 + 7, Integer.MIN_VALUE, Integer.MAX_VALUE}) {
            run.due(Run.BAD, "least", k);
            new Run().due(Run.BAD, "least", k);
        }
    }

    private static void aims() {
        Check.says("BAD: aims below 0.");
        for (Run run : new Run[] {new Run(), Run.ofDam("row 0 aaaaaaaa;")}) {
            run.due(Run.BAD, "ways", -1).due(Run.BAD, "ways", -10000).due(Run.BAD, "ways", Integer.MIN_VALUE).due(0, "ways", 0);
        }
        Run.ofDam("row 0 aaaaaaaa;").due(0, "ways", 9999).due(8, "ways", 10000).due(8, "ways", Integer.MAX_VALUE);
    }

    private static void theFullSlice() {
        Check.says("DRIVE: over its columns");
        Run run = new Run();
        for (int y = 0; y < 6; y++) run.type("row " + y + " aaaaaaaa;");
        run.due(48, "dam").due(3002, "ways", 10000).due(0, "ways", 111).due(1, "ways", 112);
        least(run, 111, 7, 2);
        // All that can be WET, at the greatest HOLD and the least.
        run.does("lake", 6).does("sweep", 100).does("zone", 0, 1, 99).due(3002, "ways", 10000).does("zone", 0, 1, 1).due(3002, "ways", 10000).due(0, "least", -1);
    }
}
