/** Edges of promises 8 to 11: THE LAKE, SWEEPS, SEEP, dry. */
public final class EdgesOfWaterTest {
    public static void main(String[] args) {
        lake();
        headsAtFirst();
        howManySweeps();
        inTheirOrder();
        yBelowTheLake();
        theFoot();
        noNeighboursBeyondTheEnds();
        withoutNeighbours();
        whatIsGoneIsNoNeighbour();
        roundedDown();
        lesserLead();
        seep();
        seepWithoutEarth();
        dry();
        Check.end();
    }

    private static Run column() {
        return Run.ofDam("row 0 a.......;row 1 a.......;row 2 a.......;row 3 a.......;row 4 a.......;row 5 a.......;");
    }

    private static void heads(Run run, int y, int... want) {
        for (int x = 0; x < want.length; x++) run.due(want[x], "cell", x, y, 1);
    }

    private static void lake() {
        Check.says("THE LAKE is at 0 .. 6 (0 at first).");
        Run run = new Run().due(0, "count", 6);
        int was = 0;
        for (int v = 0; v <= 6; v++) {
            run.due(was, "lake", v).due(v, "count", 6).due(Run.BAD, "lake", -1).due(Run.BAD, "lake", 7).due(v, "count", 6);
            was = v;
        }
        Check.says("`int lake(int v)`: THE LAKE becomes v: what it was. BAD.");
        run.due(6, "lake", 0).due(0, "lake", 0);
        for (int v : new int[] {Integer.MIN_VALUE, Integer.MAX_VALUE, -250, 256, 262, 65536}) run.due(Run.BAD, "lake", v);
        run.due(0, "count", 6);
    }

    private static void headsAtFirst() {
        Check.says("HEADS (0 at first) are in thousandths.");
        Run run = new Run();
        for (int y = 0; y < 6; y++) run.type("row " + y + " aaaaaaaa;");
        run.due(48, "dam").does("lake", 6);
        // THE LAKE alone brings none: a SWEEP does.
        for (int i = 0; i < 48; i++) run.due(0, "cell", i % 8, i / 8, 1);
        run.due(0, "count", 2).due(0, "dry").does("sweep", 1).due(6000, "cell", 0, 0, 1).due(6000, "cell", 0, 5, 1);
    }

    private static void inTheirOrder() {
        Check.says("Then all other EARTH, by y from 0 up, in a row by x from 0 up:");
        // HEADS of this SWEEP from the left and from below, of the one before from the right and from above.
        Run run = Run.ofDam("row 0 aaaaaaaa;row 1 aaaaaaaa;").does("lake", 2).due(8, "sweep", 1);
        heads(run, 0, 2000, 666, 222, 74, 24, 8, 2, 0);
        heads(run, 1, 2000, 888, 370, 148, 57, 21, 7, 3);
    }

    private static void howManySweeps() {
        Check.says("n SWEEPS (1 .. 100): how many CELLS are WET. BAD.");
        Run run = Run.ofDam("row 0 aaaaaaaa;").does("lake", 1);
        for (int n : new int[] {0, -1, 101, 102, 256, 257, Integer.MIN_VALUE, Integer.MAX_VALUE}) run.due(Run.BAD, "sweep", n);
        heads(run, 0, 0, 0, 0, 0, 0, 0, 0, 0);
        run.due(7, "sweep", 1);
        heads(run, 0, 1000, 500, 250, 125, 62, 31, 15, 0);
        // 100 of one each are one of 100, and 99 are not.
        Run hundred = Run.ofDam("row 1 aaaaaaaa;").does("lake", 6).due(8, "sweep", 100);
        Run ones = Run.ofDam("row 1 aaaaaaaa;").does("lake", 6);
        for (int i = 0; i < 99; i++) ones.does("sweep", 1);
        Check.holds("99 SWEEPS are not 100", ones.call("cell", 7, 1, 1) != hundred.call("cell", 7, 1, 1));
        ones.due(8, "sweep", 1);
        for (int x = 0; x < 8; x++) ones.due(hundred.call("cell", x, 1, 1), "cell", x, 1, 1);
        // The empty slice, and the full one.
        new Run().does("lake", 6).due(0, "sweep", 100);
        Run full = new Run();
        for (int y = 0; y < 6; y++) full.type("row " + y + " aaaaaaaa;");
        full.due(48, "dam").due(0, "sweep", 100).does("lake", 6);
        long wet = full.call("sweep", 100);
        full.due(wet, "count", 2);
    }

    private static void yBelowTheLake() {
        Check.says("A SWEEP: first EARTH with x 0 and y below THE LAKE has HEAD 1000 times THE LAKE");
        for (int lake = 0; lake <= 6; lake++) {
            Run run = column().does("lake", lake).due(lake, "sweep", 1);
            for (int y = 0; y < 6; y++) {
                // Above THE LAKE: half of the HEAD below it, and all of it where there is none above.
                int head = lake == 0 ? 0 : 1000 * lake;
                for (int at = lake; at <= y; at++) head = at == 5 ? head : head / 2;
                run.due(head, "cell", 0, y, 1);
            }
        }
        // THE LAKE is lower then: what it held is held no more.
        column().does("lake", 6).does("sweep", 1).does("lake", 5).does("sweep", 1).due(5000, "cell", 0, 5, 1).due(5000, "cell", 0, 4, 1);
        // Not at x 1, nor where there is AIR.
        Run run = Run.ofDam("row 0 .a......;row 1 .a......;").does("lake", 6).due(0, "sweep", 9);
        run.due(0, "cell", 1, 0, 1).due(0, "cell", 1, 1, 1).due(Run.STATE, "cell", 0, 0, 1);
    }

    private static void theFoot() {
        Check.says("EARTH with x 7 and y 0 has HEAD 0.");
        Run run = Run.ofDam("row 0 aaaaaaaa;row 1 aaaaaaaa;").does("lake", 6).does("sweep", 100);
        run.due(0, "cell", 7, 0, 1).due(0, "cell", 7, 0, 2);
        Check.holds("(6, 0) is not held", run.call("cell", 6, 0, 1) > 0);
        Check.holds("(7, 1) is not held", run.call("cell", 7, 1, 1) > 0);
        // With THE LAKE at 0 all goes down to the foot, and stays there.
        run.does("lake", 0);
        for (int i = 0; i < 20; i++) run.does("sweep", 100);
        run.due(0, "cell", 7, 0, 1).due(0, "count", 2);
    }

    private static void noNeighboursBeyondTheEnds() {
        Check.says("its neighbours (EARTH, up, down, left, right)");
        // The end of a row is no neighbour of the next row's beginning, nor of its own.
        Run run = Run.ofDam("row 1 .......a;row 2 a.......;").does("lake", 6).due(1, "sweep", 9).due(0, "cell", 7, 1, 1);
        run = Run.ofDam("row 1 a......a;").does("lake", 6).due(1, "sweep", 9).due(0, "cell", 7, 1, 1);
        run = Run.ofDam("row 2 .......a;row 1 a.......;").does("lake", 6).due(1, "sweep", 9).due(0, "cell", 7, 2, 1);
        // Nor the ground of what is highest.
        run = Run.ofDam("row 0 a.......;row 5 a.......;").does("lake", 1).due(1, "sweep", 9).due(0, "cell", 0, 5, 1);
        // Nor what is at a corner.
        run = Run.ofDam("row 0 a.......;row 1 .a......;").does("lake", 1).due(1, "sweep", 9).due(0, "cell", 1, 1, 1);
        // Each of the four brings its part: 4000 from the left, nothing from the other three.
        run = Run.ofDam("row 1 .a......;row 2 aaa.....;row 3 .a......;").does("lake", 4).does("sweep", 1).due(1000, "cell", 1, 2, 1);
        // (1, 1) comes ahead of it, and has no HEAD beside it yet; (2, 2) and (1, 3) come behind.
        run.due(0, "cell", 1, 1, 1).due(1000, "cell", 2, 2, 1).due(1000, "cell", 1, 3, 1);
    }

    private static void withoutNeighbours() {
        Check.says("without neighbours it stays.");
        Run run = Run.ofDam("row 5 a.......;").does("lake", 6).due(1, "sweep", 1).does("lake", 5).due(1, "sweep", 100);
        run.due(6000, "cell", 0, 5, 1).does("lake", 0).due(1, "sweep", 1).due(6000, "cell", 0, 5, 1);
        run.due(1, "dry").due(0, "sweep", 1).due(0, "cell", 0, 5, 1);
    }

    private static void whatIsGoneIsNoNeighbour() {
        Check.says("EARTH are CELLS that are not AIR and not GONE.");
        // (1, 1) goes, as AIR is at its right: (0, 1) has no neighbours then, and stays as it is.
        Run run = Run.ofDam("zone a 10 99 10;zone b 10 1 10;row 1 ab......;").does("lake", 2).does("sweep", 1).due(1, "day").due(1, "cell", 1, 1, 3);
        run.does("lake", 1).due(1, "sweep", 9).due(2000, "cell", 0, 1, 1).due(2000, "cell", 1, 1, 1);
        // And it takes no HEAD of THE LAKE itself.
        run = Run.ofDam("zone a 10 1 10;row 0 a.......;").does("lake", 1).does("sweep", 1).due(1, "day").does("lake", 6).due(0, "sweep", 1);
        run.due(1000, "cell", 0, 0, 1);
    }

    private static void roundedDown() {
        Check.says("HEAD becomes the sum of m times HEAD of its neighbours (EARTH, up, down, left, right), by the sum of all m, rounded down");
        // 1000 times m by 3: 333 and a third, 666 and two thirds.
        Run.ofDam("zone a 1 9 9;zone b 9 9 9;zone c 2 9 9;row 0 abc.....;").does("lake", 1).does("sweep", 1).due(333, "cell", 1, 0, 1);
        Run.ofDam("zone a 2 9 9;zone b 9 9 9;zone c 1 9 9;row 0 abc.....;").does("lake", 1).does("sweep", 1).due(666, "cell", 1, 0, 1);
        // HEAD 1 by two is 0.
        Run run = Run.ofDam("row 0 aaaaaaaa;").does("lake", 1).does("sweep", 1).due(15, "cell", 6, 0, 1);
        run = Run.ofDam("zone a 1 9 9;zone b 99 9 9;row 0 abbbbbbb;").does("lake", 1).does("sweep", 1);
        heads(run, 0, 1000, 10, 5, 2, 1, 0, 0, 0);
        // As much as can be: all LEADS 99, LAKE 6, three neighbours at 6000.
        run = Run.ofDam("zone a 99 9 9;row 1 a.......;row 0 a.......;row 2 a.......;").does("lake", 6).does("sweep", 9).does("lake", 0).does("sweep", 9);
        heads(run, 1, 6000);
    }

    private static void lesserLead() {
        Check.says("with m the lesser LEAD of the two");
        int[][] rows = {{1, 9, 4, 200}, {9, 1, 4, 500}, {9, 4, 1, 800}, {4, 9, 1, 800}, {1, 4, 9, 200}, {5, 5, 5, 500}, {99, 98, 97, 502}, {99, 1, 99, 500}};
        for (int[] row : rows) {
            String text = "zone a " + row[0] + " 9 9;zone b " + row[1] + " 9 9;zone c " + row[2] + " 9 9;row 0 abc.....;";
            Run.ofDam(text).does("lake", 1).does("sweep", 1).due(row[3], "cell", 1, 0, 1);
        }
    }

    private static void seep() {
        Check.says("the sum of m times HEAD of its neighbours, by 1000, rounded down.");
        Run run = Run.ofDam("row 0 aaaaaaaa;").does("lake", 6).due(0, "seep").does("sweep", 1).due(93, "cell", 6, 0, 1);
        // 93 times 10 is 930; times 11 it is 1023; times 43 it is 3999.
        run.due(0, "seep").does("zone", 0, 0, 11).due(1, "seep").does("zone", 0, 0, 43).due(3, "seep");
        for (int lead = 1; lead <= 99; lead++) run.does("zone", 0, 0, lead).due(93 * lead / 1000, "seep");
        // 125 times 8 is 1000, and times 7 it is 875.
        run = Run.ofDam("row 0 aaaaaaaa;").does("lake", 1).does("sweep", 11).due(125, "cell", 6, 0, 1);
        run.does("zone", 0, 0, 8).due(1, "seep").does("zone", 0, 0, 7).due(0, "seep").does("zone", 0, 0, 16).due(2, "seep");
    }

    private static void seepWithoutEarth() {
        Check.says("`int seep()`: SEEP.");
        new Run().due(0, "seep");
        Check.says("SEEP: over EARTH with x 7, y 0");
        Run.ofDam("row 0 aaaaaaa.;row 1 aaaaaaaa;").does("lake", 6).does("sweep", 100).due(0, "seep");
        // EARTH at the foot without neighbours; the next row's beginning is none.
        Run.ofDam("row 0 .......a;row 1 a.......;").does("lake", 6).does("sweep", 100).due(0, "seep");
        Run.ofDam("row 0 a......a;").does("lake", 6).does("sweep", 100).due(0, "seep");
        // A neighbour that is GONE brings nothing.
        Run run = Run.ofDam("zone a 10 1 1;zone b 10 99 99;row 0 aaaaaaab;").does("lake", 6).does("sweep", 100);
        Check.holds("some seeps", run.call("seep") > 0);
        run.due(1, "day").due(1, "cell", 6, 0, 3).due(0, "seep");
        // From above alone.
        run = Run.ofDam("row 0 .......a;row 1 aaaaaaaa;").does("lake", 6).does("sweep", 100);
        run.due(10 * run.call("cell", 7, 1, 1) / 1000, "seep");
    }

    private static void dry() {
        Check.says("HEADS are 0: how many were above.");
        new Run().due(0, "dry");
        Run run = Run.ofDam("row 0 aaaaaaaa;").due(0, "dry").does("lake", 1).does("sweep", 1).due(7, "dry").due(0, "dry");
        heads(run, 0, 0, 0, 0, 0, 0, 0, 0, 0);
        run.due(1, "count", 6).due(0, "count", 2).due(8, "count", 0);
        // HEAD 1 is above, HEAD 0 is not: 1000, 10, 5, 2, 1, 0, 0, 0.
        run = Run.ofDam("zone a 1 9 9;zone b 99 9 9;row 0 abbbbbbb;").does("lake", 1).does("sweep", 1).due(5, "dry");
        // HEADS below the cell's height are above 0 all the same.
        run = Run.ofDam("row 1 aaaaaaaa;").does("lake", 2).due(1, "sweep", 1).due(8, "dry");
        // The full slice: all but the foot.
        run = new Run();
        for (int y = 0; y < 6; y++) run.type("row " + y + " aaaaaaaa;");
        run.due(48, "dam").does("lake", 6).does("sweep", 100).due(47, "dry").due(0, "dry");
        // What is GONE has a HEAD still, and it is 0 then.
        run = Run.ofDam("row 1 a.......;").does("lake", 2).does("sweep", 1).due(1, "day").due(1, "dry").due(0, "cell", 0, 1, 1).due(1, "cell", 0, 1, 3);
    }
}
