/** Edges of promises 1, 5 to 7 and 33: CELLS, ZONES, LOADS, THE TRACE, and the 512th call. */
public final class EdgesOfCellsTest {
    public static void main(String[] args) {
        aNewObject();
        airOrAZone();
        cornersOfTheSlice();
        cellsBeyondTheSlice();
        whatOfACell();
        whatIsGone();
        pushIsZeroAtLeast();
        zones();
        kindsOverOneAnother();
        loadOfParts();
        loadOfCells();
        loadOfDrainedAndCarried();
        loadOfCracks();
        loadsThatAreRefused();
        trace();
        lastCall();
        Check.end();
    }

    private static void aNewObject() {
        Check.says("`EarthBanks()`: All is AIR.");
        Run run = new Run();
        for (int i = 0; i < 48; i++) {
            run.due(Run.NONE, "cell", i % 8, i / 8, 0).due(Run.STATE, "load", i % 5, i % 8, i / 8);
            for (int what = 1; what < 4; what++) run.due(Run.STATE, "cell", i % 8, i / 8, what);
        }
        for (int what = 0; what < 8; what++) run.due(0, "count", what);
        run.due(0, "trace").due(0, "clear").due(0, "seep").due(0, "dry").due(0, "day").due(0, "fits").due(0, "dam");
        run.due(Run.NONE, "least", -1).due(Run.NONE, "least", -2).due(Run.NONE, "least", 7).due(0, "ways", 10000);
        run.due(Run.NONE, "breach").due(6, "highest").due(0, "sweep", 1).due(Run.NONE, "next", 0).due(Run.NONE, "next", 1);
        run.due(0, "cheapest", 9999, 0).due(0, "cheapest", 9999, 1).due(2000, "best", 0).due(8, "best", 1);
        run.due(Run.STATE, "back", 0).due(Run.STATE, "back", 1);
        for (int i = 0; i < 8; i++) run.due(0, "ebb", i);
    }

    private static void airOrAZone() {
        Check.says("each is AIR (at first), or of a ZONE a .. f (0 .. 5).");
        Run run = Run.ofDam("row 0 abcdef..;row 5 ..fedcba;").due(12, "count", 0);
        for (int x = 0; x < 8; x++) {
            run.due(x < 6 ? x : Run.NONE, "cell", x, 0, 0).due(x < 2 ? Run.NONE : 7 - x, "cell", x, 5, 0).due(Run.NONE, "cell", x, 1, 0);
        }
    }

    private static void cornersOfTheSlice() {
        Check.says("7 from the lake to the foot, y 0 .. 5 from the ground up");
        Run run = Run.ofDam("row 0 b......c;row 5 d......e;").due(4, "count", 0);
        run.due(1, "cell", 0, 0, 0).due(2, "cell", 7, 0, 0).due(3, "cell", 0, 5, 0).due(4, "cell", 7, 5, 0);
        run.due(10, "load", 0, 0, 0).due(10, "load", 0, 7, 0).due(15, "load", 0, 0, 5).due(15, "load", 0, 7, 5);
        run.due(0, "gauge", 0, 0, 0).due(1, "gauge", 7, 5, 0).due(0, "work", 1, 7, 5, 0, 0).due(1, "work", 0, 7, 0, 1, 0);
    }

    private static void cellsBeyondTheSlice() {
        Check.says("BAD (a number is not as told, or there is no such thing)");
        // All is EARTH, so that a place that wraps around would be told.
        Run run = new Run();
        for (int y = 0; y < 6; y++) run.type("row " + y + " abcdefab;");
        run.due(48, "dam");
        int[][] beyond = {
            {-1, 0}, {8, 0}, {-1, 5}, {8, 5}, {0, -1}, {0, 6}, {7, -1}, {7, 6}, {-1, 1}, {8, 4}, {-8, 1}, {16, 0}, {-1, -1}, {8, 6}, {48, 0},
            {0, 1 << 29}, {8, -1}, {-8, 6}, {Integer.MIN_VALUE, 0}, {0, Integer.MIN_VALUE}, {Integer.MAX_VALUE, 5}, {7, Integer.MAX_VALUE},
        };
        for (int[] c : beyond) {
            for (int what = 0; what < 4; what++) run.due(Run.BAD, "cell", c[0], c[1], what);
            for (int kind = 0; kind < 5; kind++) run.due(Run.BAD, "load", kind, c[0], c[1]);
            run.due(Run.BAD, "gauge", c[0], c[1], 0).due(Run.BAD, "work", 1, c[0], c[1], 0, 0);
        }
        run.due(0, "trace").due(0, "count", 3).due(0, "count", 5);
    }

    private static void whatOfACell() {
        Check.says("Of a CELL: 0 its ZONE (NONE: AIR), 1 HEAD, 2 PUSH, 3 whether it is GONE.");
        Run run = Run.ofDam("row 1 f.......;").does("lake", 6).does("sweep", 1);
        run.due(5, "cell", 0, 1, 0).due(6000, "cell", 0, 1, 1).due(5000, "cell", 0, 1, 2).due(0, "cell", 0, 1, 3);
        run.due(Run.BAD, "cell", 0, 1, -1).due(Run.BAD, "cell", 0, 1, 4);
        Check.says("BAD; STATE: it is AIR (of 1 to 3).");
        run.due(Run.NONE, "cell", 1, 1, 0);
        for (int what = 1; what < 4; what++) run.due(Run.STATE, "cell", 1, 1, what);
        Check.says("Refused, and nothing changes, the first of these: BAD");
        run.due(Run.BAD, "cell", 1, 1, 4).due(Run.BAD, "cell", 1, 1, -1).due(Run.BAD, "cell", 8, 1, 1);
    }

    private static void whatIsGone() {
        Check.says("EARTH are CELLS that are not AIR and not GONE.");
        Run run = Run.ofDam("row 1 f.......;").does("lake", 6).does("sweep", 1).due(1, "count", 0).due(1, "count", 2);
        run.due(1, "day").due(0, "count", 0).due(1, "count", 1).due(0, "count", 2);
        // It is not AIR: its ZONE, HEAD, PUSH and LOAD are told still.
        run.due(5, "cell", 0, 1, 0).due(6000, "cell", 0, 1, 1).due(5000, "cell", 0, 1, 2).due(1, "cell", 0, 1, 3);
        run.due(61, "load", 1, 0, 1);
    }

    private static void pushIsZeroAtLeast() {
        Check.says("PUSH of a CELL that is not AIR: HEAD less 1000 y, 0 at least.");
        // HEADS 2000, 1000, 500 .. at y 1.
        Run run = Run.ofDam("row 1 aaaaaaaa;").does("lake", 2).due(1, "sweep", 1);
        run.due(1000, "cell", 0, 1, 2).due(1000, "cell", 1, 1, 1).due(0, "cell", 1, 1, 2).due(500, "cell", 2, 1, 1).due(0, "cell", 2, 1, 2);
        Check.says("WET is EARTH with a PUSH above 0.");
        run.due(1, "count", 2);
        // HEAD 1001 at y 1 is a PUSH of 1, and WET; the cell behind it has less.
        run = Run.ofDam("row 0 aaaaaaaa;row 1 aaaaaaaa;").does("lake", 3).due(11, "sweep", 6);
        run.due(1001, "cell", 3, 1, 1).due(1, "cell", 3, 1, 2).due(0, "cell", 4, 1, 2);
        Check.holds("HEAD behind it is below 1000", run.call("cell", 4, 1, 1) < 1000);
        // HEAD 1 at y 0 is WET, HEAD 0 is not.
        run = Run.ofDam("row 0 aaaaaaaa;row 1 aaaaaaaa;").does("lake", 1).due(7, "sweep", 1);
        run.due(1, "cell", 6, 0, 2).due(0, "cell", 7, 0, 2);
        // As high as can be: LAKE 6 at y 0.
        Run.ofDam("row 0 a.......;").does("lake", 6).does("sweep", 100).due(6000, "cell", 0, 0, 2);
    }

    private static void zones() {
        Check.says("ZONES have LEAD, HOLD, GRAIN (1 .. 99; 10 each at first).");
        Run run = new Run();
        for (int z = 0; z < 6; z++) {
            for (int what = 0; what < 3; what++) {
                run.due(10, "zone", z, what, 1).due(Run.BAD, "zone", z, what, 0).due(1, "zone", z, what, 99);
                run.due(Run.BAD, "zone", z, what, 100).due(Run.BAD, "zone", z, what, 99 - 256).due(99, "zone", z, what, 20 + 3 * z + what);
            }
        }
        for (int z = 0; z < 6; z++) for (int what = 0; what < 3; what++) run.due(20 + 3 * z + what, "zone", z, what, 50);
        Check.says("LEAD (what = 0), HOLD (1), GRAIN (2) of a ZONE becomes v: what it was. BAD.");
        run.due(Run.BAD, "zone", -1, 0, 7).due(Run.BAD, "zone", 6, 0, 7).due(Run.BAD, "zone", 0, -1, 7).due(Run.BAD, "zone", 0, 3, 7);
        run.due(Run.BAD, "zone", 5, 3, 7).due(Run.BAD, "zone", 1, -1, 7).due(Run.BAD, "zone", -1, 3, 7).due(Run.BAD, "zone", 6, -1, 100);
        for (int z = 0; z < 6; z++) for (int what = 0; what < 3; what++) run.due(50, "zone", z, what, 50);
    }

    private static void kindsOverOneAnother() {
        Check.says("0 PART; 1 CELL, 4 CRACK (each under PART); 2 DRAINED, 3 CARRIED (each under CELL).");
        // PUSH 1000: it counts for what is under CELL, and not for PART nor CRACK.
        Run run = Run.ofDam("row 1 a.......;").does("lake", 2).does("sweep", 1);
        run.due(11, "load", 0, 0, 1).due(21, "load", 1, 0, 1).due(14, "load", 2, 0, 1).due(10, "load", 3, 0, 1).due(10, "load", 4, 0, 1);
        Check.says("\"up\" is what the KIND above does");
        // THE TRACE tells which were asked: all above it, each once.
        run.due(1 + 11 + 111 + 1011 + 10001, "trace");
        Check.says("LOAD of a CELL that is not AIR");
        run.due(1, "day").due(21, "load", 1, 0, 1).due(Run.STATE, "load", 1, 1, 1);
    }

    private static void loadOfParts() {
        Check.says("PART 10, and y (1).");
        Run run = new Run();
        for (int y = 0; y < 6; y++) run.type("row " + y + " aaaaaaaa;");
        run.due(48, "dam");
        for (int y = 0; y < 6; y++) run.due(10 + y, "load", 0, 7 - y, y).due(y + 1, "trace");
    }

    /** A CELL (1, 0) of ZONE b between HEADS 1000 and 0, with the LEADS of its neighbours: a SWEEP brings it to a HEAD. */
    private static Run between(int leadAhead, int leadBehind) {
        return Run.ofDam("zone a " + leadAhead + " 99 99;zone b 99 1 1;zone c " + leadBehind + " 99 99;row 0 abc.....;").does("lake", 1).does("sweep", 1);
    }

    private static void loadOfCells() {
        Check.says("CELL up, and its PUSH by 100, rounded down (10).");
        between(10, 91).due(99, "cell", 1, 0, 2).due(10, "load", 1, 1, 0);
        between(10, 90).due(100, "cell", 1, 0, 2).due(11, "load", 1, 1, 0);
        between(3, 2).due(600, "cell", 1, 0, 2).due(16, "load", 1, 1, 0);
        Run.ofDam("row 0 a.......;").due(10, "load", 1, 0, 0).does("lake", 6).does("sweep", 1).due(70, "load", 1, 0, 0);
        // PUSH, not HEAD: 1000 at y 1 is none.
        Run.ofDam("row 1 aaaaaaaa;").does("lake", 2).does("sweep", 1).due(11, "load", 1, 1, 1).due(21, "load", 1, 0, 1);
    }

    private static void loadOfDrainedAndCarried() {
        Run run = new Run();
        for (int y = 0; y < 6; y++) run.type("row " + y + " aaaaaaaa;");
        run.due(48, "dam");
        int[] drained = {7, 8, 8, 9, 10, 10};
        int[] carried = {5, 5, 6, 6, 7, 7};
        for (int y = 0; y < 6; y++) {
            Check.says("DRAINED up, less a third of it, rounded down (100).");
            run.due(drained[y], "load", 2, 0, y);
            Check.says("CARRIED half of up, rounded down (1000).");
            run.due(carried[y], "load", 3, 0, y);
        }
    }

    private static void loadOfCracks() {
        Check.says("CRACK up, less its HOLD by 10, rounded down (10000).");
        Run run = Run.ofDam("row 0 a.......;row 5 a.......;").does("lake", 6).does("sweep", 1);
        int[][] rows = {{1, 10}, {9, 10}, {10, 9}, {19, 9}, {20, 8}, {89, 2}, {90, 1}, {99, 1}};
        for (int[] row : rows) run.does("zone", 0, 1, row[0]).due(row[1], "load", 4, 0, 0).due(row[1] + 5, "load", 4, 0, 5);
    }

    private static void loadsThatAreRefused() {
        Check.says("LOAD of a CELL as if of a KIND. BAD; STATE: it is AIR.");
        Run run = Run.ofDam("row 0 a......a;");
        run.due(Run.BAD, "load", -1, 0, 0).due(Run.BAD, "load", 5, 0, 0).due(Run.BAD, "load", Integer.MIN_VALUE, 0, 0);
        for (int kind = 0; kind < 5; kind++) run.due(Run.STATE, "load", kind, 1, 0).due(Run.STATE, "load", kind, 0, 1).due(Run.STATE, "load", kind, 7, 5);
        Check.says("Refused, and nothing changes, the first of these: BAD");
        run.due(Run.BAD, "load", 5, 1, 0).due(Run.BAD, "load", -1, 1, 0).due(Run.BAD, "load", 0, 8, 1).due(Run.BAD, "load", 0, 1, 6);
        run.due(0, "trace");
    }

    private static void trace() {
        Check.says("numbers in brackets come to THE TRACE as often as load() asks that body");
        long[] of = {1, 11, 111, 1011, 10001};
        long all = 0;
        Run run = Run.ofDam("row 0 aaaaaaaa;").due(0, "trace");
        for (int round = 0; round < 3; round++) {
            for (int kind = 0; kind < 5; kind++) {
                all += of[kind];
                run.does("load", kind, round, 0).due(all, "trace").due(all, "trace");
            }
        }
        Check.says("`long trace()`: THE TRACE.");
        // Nothing but load() comes to it, and nothing takes of it.
        run.due(Run.BAD, "load", 5, 0, 0).due(Run.STATE, "load", 0, 0, 1).does("sweep", 3).does("day").does("keep", 0).does("back", 0);
        run.does("clear").does("dam").due(all, "trace");
    }

    private static void lastCall() {
        Check.says("An object is used for at most 512 calls after it has been made");
        Run run = Run.ofDam("row 0 aaaaaaaa;");
        int loads = 0;
        while (run.calls() < Run.MOST_CALLS - 1) {
            loads++;
            run.due(9, "load", 4, loads % 8, 0);
        }
        run.due(10001L * loads, "trace");
        run = new Run();
        while (run.calls() < Run.MOST_CALLS - 2) run.type(" ").due(1, "clear");
        run.due(1, "type", ' ', 1).due(0, "dam");
    }
}
