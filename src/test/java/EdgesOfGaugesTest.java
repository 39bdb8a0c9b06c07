/** Edges of promises 23 to 27: GAUGES, CAUSES, SLACK, FITS, NEXT GAUGE. */
public final class EdgesOfGaugesTest {
    private static final String ROW = "row 1 aaaaaaaa;";

    public static void main(String[] args) {
        gauges();
        causes();
        slack();
        noCauseAndAllCauses();
        bitsOfCauses();
        offBySlack();
        gaugesThatDoNotCount();
        eachGaugeCounts();
        fortySweeps();
        fewerThanTwo();
        mostApart();
        numbersOfNext();
        Check.end();
    }

    private static void gauges() {
        Check.says("GAUGES (8 at most) at CELLS read a HEAD 0 .. 9999.");
        Run run = new Run();
        for (int reads : new int[] {-1, 10000, 65536, Integer.MIN_VALUE, Integer.MAX_VALUE}) run.due(Run.BAD, "gauge", 0, 0, reads);
        for (int[] c : new int[][] {{-1, 0}, {8, 0}, {0, -1}, {0, 6}, {8, 6}, {-1, -1}}) run.due(Run.BAD, "gauge", c[0], c[1], 5);
        run.due(0, "count", 3);
        // At AIR, and two at one CELL, are GAUGES like others.
        int[][] eight = {{0, 0, 0}, {7, 0, 9999}, {0, 5, 0}, {7, 5, 9999}, {7, 5, 0}, {7, 5, 9999}, {3, 3, 1}, {4, 2, 9998}};
        for (int i = 0; i < 8; i++) run.due(i, "gauge", eight[i][0], eight[i][1], eight[i][2]).due(i + 1, "count", 3);
        run.due(Run.FULL, "gauge", 0, 0, 0).due(Run.FULL, "gauge", 7, 5, 9999).due(8, "count", 3);
        Check.says("Refused, and nothing changes, the first of these: BAD");
        run.due(Run.BAD, "gauge", 8, 0, 0).due(Run.BAD, "gauge", -1, 0, 0).due(Run.BAD, "gauge", 0, 6, 0).due(Run.BAD, "gauge", 0, -1, 0);
        run.due(Run.BAD, "gauge", 0, 0, -1).due(Run.BAD, "gauge", 0, 0, 10000).due(8, "count", 3);
    }

    private static void causes() {
        Check.says("CAUSES (8 at most): a ZONE has another LEAD.");
        Run run = new Run();
        for (int zone : new int[] {-1, 6, 256, Integer.MIN_VALUE, Integer.MAX_VALUE}) run.due(Run.BAD, "cause", zone, 5);
        for (int lead : new int[] {0, 100, -1, 257, Integer.MIN_VALUE, Integer.MAX_VALUE}) run.due(Run.BAD, "cause", 0, lead);
        run.due(0, "count", 4);
        int[][] eight = {{0, 1}, {0, 99}, {5, 1}, {5, 99}, {5, 99}, {0, 10}, {2, 50}, {3, 51}};
        for (int i = 0; i < 8; i++) run.due(i, "cause", eight[i][0], eight[i][1]).due(i + 1, "count", 4);
        run.due(Run.FULL, "cause", 0, 1).due(Run.FULL, "cause", 5, 99).due(8, "count", 4);
        Check.says("Refused, and nothing changes, the first of these: BAD");
        run.due(Run.BAD, "cause", -1, 1).due(Run.BAD, "cause", 6, 1).due(Run.BAD, "cause", 0, 0).due(Run.BAD, "cause", 0, 100).due(8, "count", 4);
    }

    private static void slack() {
        Check.says("SLACK (0 .. 999; 100 at first)");
        Run run = new Run().due(Run.BAD, "slack", -1).due(Run.BAD, "slack", 1000).due(100, "slack", 0).due(Run.BAD, "slack", 1000).due(0, "slack", 999);
        for (int v : new int[] {-1, 1000, 65536, Integer.MIN_VALUE, Integer.MAX_VALUE}) run.due(Run.BAD, "slack", v);
        Check.says("SLACK becomes v: what it was. BAD.");
        run.due(999, "slack", 100).due(100, "slack", 100);
    }

    private static void noCauseAndAllCauses() {
        Check.says("CAUSES that FIT, as bits.");
        new Run().due(0, "fits");
        Run.ofDam(ROW).due(0, "fits").due(0, "gauge", 0, 1, 0).due(0, "fits");
        Run run = Run.ofDam(ROW);
        for (int i = 0; i < 8; i++) run.due(i, "cause", 0, 1 + i).due((2 << i) - 1, "fits");
        run.due(Run.FULL, "cause", 0, 9).due(255, "fits");
        // Without EARTH each FITS, whatever GAUGES read.
        run = new Run();
        for (int i = 0; i < 8; i++) run.does("cause", i % 6, 99).does("gauge", i, i % 6, 9999);
        run.due(255, "fits");
    }

    /** HEAD of (1, 0) by a LEAD of ZONE a: 1000 at (0, 0), and the foot far behind. */
    private static long headBy(int lead) {
        return Run.ofDam("row 0 abbbbbbb;").does("lake", 1).does("zone", 0, 0, lead).does("sweep", 40).call("cell", 1, 0, 1);
    }

    private static void bitsOfCauses() {
        Check.says("CAUSES that FIT, as bits.");
        // Each LEAD up to 8 has a HEAD of its own: with SLACK 0 just one FITS.
        for (int i = 0; i < 8; i++) {
            Run run = Run.ofDam("row 0 abbbbbbb;").does("lake", 1).does("slack", 0).does("gauge", 1, 0, headBy(1 + i));
            for (int lead = 1; lead <= 8; lead++) run.does("cause", 0, lead);
            run.due(1 << i, "fits").due(Run.NONE, "next", 0).due(10, "zone", 0, 0, 10);
        }
        // The CAUSE's LEAD counts, not the ZONE's own.
        Run run = Run.ofDam("row 0 abbbbbbb;").does("lake", 1).does("slack", 0).does("gauge", 1, 0, headBy(3)).does("cause", 0, 4).does("zone", 0, 0, 3).due(0, "fits");
        run.does("cause", 1, 10).due(2, "fits");
    }

    private static void offBySlack() {
        Check.says("reads what HEAD is there, or no more than SLACK (0 .. 999; 100 at first) off.");
        // HEAD is 3000 at THE LAKE.
        for (int slack : new int[] {100, 0, 1, 999}) {
            for (int off = -1; off <= 1; off += 2) {
                Run run = Run.ofDam(ROW).does("lake", 3).does("cause", 1, 1).does("gauge", 0, 1, 3000 + off * slack);
                if (slack != 100) run.does("slack", slack);
                run.due(1, "fits");
                run.does("gauge", 0, 1, 3000 + off * (slack + 1)).due(0, "fits");
            }
        }
        // GAUGES at their ends: 0 by HEAD 0, 9999 by none.
        Run.ofDam(ROW).does("cause", 0, 1).does("slack", 0).does("gauge", 0, 1, 0).due(1, "fits").does("gauge", 0, 1, 1).due(0, "fits");
        Run.ofDam(ROW).does("lake", 6).does("cause", 0, 1).does("slack", 999).does("gauge", 0, 1, 9999).due(0, "fits");
        Run.ofDam(ROW).does("lake", 6).does("cause", 0, 1).does("slack", 999).does("gauge", 0, 1, 6999).due(1, "fits").does("gauge", 0, 1, 7000).due(0, "fits");
    }

    private static void gaugesThatDoNotCount() {
        Check.says("each GAUGE (at EARTH; others don't count)");
        // At AIR.
        Run run = Run.ofDam("row 1 a......a;").does("lake", 2).does("cause", 0, 1).does("gauge", 1, 1, 9999).does("gauge", 0, 0, 9999).due(1, "fits");
        run.does("gauge", 7, 1, 9999).due(0, "fits");
        // At what is GONE, though it keeps a HEAD.
        run = Run.ofDam("row 1 a.......;").does("lake", 2).does("sweep", 1).does("cause", 0, 1).does("gauge", 0, 1, 9999).due(0, "fits").due(1, "day").due(1, "fits");
        // AIR that becomes EARTH counts.
        run.dam(2, "row 1 aa......;").due(0, "fits");
    }

    private static void eachGaugeCounts() {
        Check.says("each GAUGE (at EARTH; others don't count) reads what HEAD is there");
        for (int off = 0; off < 8; off++) {
            Run run = Run.ofDam(ROW).does("lake", 3).does("cause", 1, 1);
            for (int i = 0; i < 8; i++) run.does("gauge", 0, 1, i == off ? 2899 : 2900);
            run.due(0, "fits");
        }
        Run run = Run.ofDam(ROW).does("lake", 3).does("cause", 1, 1);
        for (int i = 0; i < 8; i++) run.does("gauge", 0, 1, i % 2 == 0 ? 2900 : 3100);
        run.due(1, "fits");
    }

    private static void fortySweeps() {
        Check.says("FITS a CAUSE: by HEADS that are 0, then 40 SWEEPS at THE LAKE with that LEAD");
        // HEAD of (7, 1) by 39, 40, 41 SWEEPS at LAKE 2: 1687, 1702, 1716; by 40 at LAKE 3 2557.
        int[][] rows = {{1687, 0}, {1702, 1}, {1716, 0}, {2557, 0}, {0, 0}};
        for (int[] row : rows) {
            Run run = Run.ofDam(ROW).does("lake", 2).does("slack", 0).does("cause", 1, 1).does("gauge", 7, 1, row[0]).due(row[1], "fits");
            // HEADS that are there already don't count, and stay as they are.
            run.does("sweep", 1);
            long head = run.call("cell", 7, 1, 1);
            run.due(row[1], "fits").due(head, "cell", 7, 1, 1).due(2, "count", 6);
            run.does("sweep", 100).due(row[1], "fits").does("lake", 3).due(row[0] == 2557 ? 1 : 0, "fits");
        }
    }

    private static void fewerThanTwo() {
        Check.says("NONE: fewer than two FIT.");
        Run run = Run.ofDam(ROW).does("lake", 2).due(Run.NONE, "next", 0).due(Run.NONE, "next", 1);
        run.does("cause", 0, 1).due(1, "fits").due(Run.NONE, "next", 0).due(Run.NONE, "next", 1);
        run.does("cause", 0, 1).due(3, "fits").due(8, "next", 0).due(0, "next", 1);
        // Two, one of which does not FIT; and eight, none of which does.
        run = Run.ofDam("row 0 abbbbbbb;").does("lake", 1).does("slack", 0).does("gauge", 1, 0, headBy(3)).does("cause", 0, 3).does("cause", 0, 4);
        run.due(1, "fits").due(Run.NONE, "next", 0).due(Run.NONE, "next", 1);
        run.does("cause", 0, 3).due(5, "fits").due(0, "next", 0).due(0, "next", 1);
        run = Run.ofDam(ROW).does("gauge", 0, 1, 9999);
        for (int i = 0; i < 8; i++) run.does("cause", 0, 1);
        run.due(0, "fits").due(Run.NONE, "next", 0).due(Run.NONE, "next", 1);
    }

    private static void mostApart() {
        Check.says("NEXT GAUGE: the EARTH at which the greatest and the least HEAD by CAUSES that FIT are most apart; of several the first by y, then x");
        // All 0 apart: the first EARTH by y, then x, the last place of the slice included.
        Run.ofDam("row 5 .......a;").does("cause", 0, 1).does("cause", 0, 2).due(47, "next", 0).due(0, "next", 1);
        Run.ofDam("row 0 .......a;row 1 a.......;").does("cause", 0, 1).does("cause", 0, 2).due(7, "next", 0);
        Run.ofDam("row 4 ...a.a..;row 5 a.......;").does("cause", 0, 1).does("cause", 0, 2).due(35, "next", 0);
        // The first and the third of three are most apart, and the order of CAUSES is of no matter.
        for (int[] leads : new int[][] {{1, 5, 99}, {99, 5, 1}, {5, 99, 1}, {1, 99, 5}}) {
            Run run = Run.ofDam("row 0 abbbbbbb;").does("lake", 1);
            for (int lead : leads) run.does("cause", 0, lead);
            run.due(7, "fits").due(1, "next", 0).due(headBy(99) - headBy(1), "next", 1);
        }
        // Without water all are 0 apart, whatever was told ahead.
        Run dry = Run.ofDam("row 0 abbbbbbb;").does("lake", 1).does("cause", 0, 1).does("cause", 0, 99).due(headBy(99) - headBy(1), "next", 1);
        dry.does("lake", 0).due(0, "next", 0).due(0, "next", 1);
        // Two FIT, but there is no EARTH to be the next.
        new Run().does("cause", 0, 1).does("cause", 0, 2).due(3, "fits").due(Run.NONE, "next", 0).due(Run.NONE, "next", 1);
        // What is GONE is no EARTH: (0, 1) goes, so the next one is the first.
        Run run = Run.ofDam("zone b 10 99 10;row 1 a.......;row 2 .....b..;").does("lake", 2).does("sweep", 1).does("cause", 0, 1).does("cause", 0, 2);
        run.due(8, "next", 0).due(1, "day").due(21, "next", 0).due(0, "next", 1);
    }

    private static void numbersOfNext() {
        Check.says("NEXT GAUGE: 8 times y and x (what = 0), how far apart (1); NONE. BAD.");
        Run none = new Run();
        Run two = Run.ofDam(ROW).does("cause", 0, 1).does("cause", 0, 2);
        for (int what : new int[] {-1, 2, 3, 256, Integer.MIN_VALUE, Integer.MAX_VALUE}) {
            none.due(Run.BAD, "next", what);
            two.due(Run.BAD, "next", what);
        }
        two.due(8, "next", 0).due(0, "next", 1);
    }
}
