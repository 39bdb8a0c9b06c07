/** Edges of promises 30 to 32: IMAGES, counts. */
public final class EdgesOfImagesTest {
    public static void main(String[] args) {
        whichImages();
        noneWasKept();
        emptyAndFullImages();
        allOfThat();
        nothingElse();
        keptAgain();
        counts();
        Check.end();
    }

    private static void whichImages() {
        Check.says("IMAGES 0, 1 keep CELLS, ZONES, HEADS, THE LAKE, what is GONE; nothing else.");
        Run run = Run.ofDam("row 0 aaaaaaaa;");
        for (int image : new int[] {-1, 2, 3, 256, 257, Integer.MIN_VALUE, Integer.MAX_VALUE}) run.due(Run.BAD, "keep", image).due(Run.BAD, "back", image);
        run.due(Run.STATE, "back", 0).due(Run.STATE, "back", 1).due(8, "keep", 0).due(Run.STATE, "back", 1).due(8, "keep", 1).due(8, "back", 1);
        for (int image : new int[] {-1, 2}) run.due(Run.BAD, "keep", image).due(Run.BAD, "back", image);
    }

    private static void noneWasKept() {
        Check.says("All of that becomes as an IMAGE has it: how many CELLS are EARTH. BAD; STATE: none was kept.");
        Run run = Run.ofDam("zone a 7 8 9;row 1 aaaaaaaa;").does("lake", 6).does("sweep", 100).due(1, "day").due(7, "keep", 1);
        run.due(Run.STATE, "back", 0).due(7, "count", 0).due(1, "count", 1).due(6, "count", 6).due(7, "zone", 0, 0, 7).due(0, "cell", 0, 1, 0);
        // A new DAM does not drop an IMAGE, nor make one.
        run.dam(1, "row 0 b.......;").due(Run.STATE, "back", 0).due(1, "count", 0).due(7, "back", 1).due(1, "count", 1);
        Check.says("Refused, and nothing changes, the first of these: BAD");
        new Run().due(Run.BAD, "back", -1).due(Run.BAD, "back", 2).due(Run.STATE, "back", 0).due(Run.STATE, "back", 1);
    }

    private static void emptyAndFullImages() {
        Check.says("An IMAGE is kept: how many CELLS are EARTH. BAD.");
        Run run = new Run().due(0, "keep", 0);
        for (int y = 0; y < 6; y++) run.type("row " + y + " ffffffff;");
        run.due(48, "dam").due(48, "keep", 1).due(0, "back", 0).due(Run.NONE, "cell", 0, 0, 0).due(Run.NONE, "cell", 7, 5, 0);
        run.due(48, "back", 1).due(5, "cell", 0, 0, 0).due(5, "cell", 7, 5, 0).due(0, "back", 0).due(0, "count", 0);
        // All of it GONE.
        run = Run.ofDam("row 1 a.......;").does("lake", 6).does("sweep", 1).due(1, "day").due(0, "keep", 0).does("dam").due(0, "count", 1);
        run.due(0, "back", 0).due(1, "count", 1).due(1, "cell", 0, 1, 3);
    }

    private static void allOfThat() {
        Check.says("All of that becomes as an IMAGE has it");
        Run run = Run.ofDam("zone a 11 12 13;zone f 21 22 23;row 1 aaaaaaaa;row 5 f......f;").does("lake", 6).does("sweep", 100).due(2, "day").due(8, "keep", 0);
        long[] heads = new long[8];
        for (int x = 0; x < 8; x++) heads[x] = run.call("cell", x, 1, 1);
        run.dam(8, "row 0 bbbbbbbb;").does("lake", 2).does("sweep", 3);
        for (int z = 0; z < 6; z++) for (int what = 0; what < 3; what++) run.does("zone", z, what, 99);
        run.due(8, "back", 0).due(6, "count", 6).due(2, "count", 1).due(8, "count", 0);
        for (int x = 0; x < 8; x++) {
            run.due(0, "cell", x, 1, 0).due(heads[x], "cell", x, 1, 1).due(x == 7 ? 1 : 0, "cell", x, 1, 3).due(Run.NONE, "cell", x, 0, 0);
        }
        run.due(5, "cell", 0, 5, 0).due(1, "cell", 0, 5, 3).due(0, "cell", 7, 5, 3).due(6000, "cell", 0, 5, 1);
        for (int what = 0; what < 3; what++) {
            run.due(11 + what, "zone", 0, what, 1).due(21 + what, "zone", 5, what, 1);
            for (int z = 1; z < 5; z++) run.due(10, "zone", z, what, 1);
        }
    }

    private static void nothingElse() {
        Check.says("what is GONE; nothing else.");
        Run run = Run.ofDam("row 0 aaaaaaaa;").due(8, "keep", 0).does("filter", 9).does("slack", 7).does("gauge", 0, 0, 0).does("cause", 0, 1).does("work", 1, 0, 0, 0, 0);
        for (int what = 0; what < 6; what++) run.does("pool", what, 70 + what);
        run.does("flood", 0, 5).does("flood", 7, 6).does("load", 0, 0, 0).due(4, "type", Check.bytes("row ", 0, 4), 4).due(8, "keep", 1);
        // The way back to each: what came later stays.
        for (int image = 0; image < 2; image++) {
            run.due(8, "back", image).due(1, "trace").due(4, "count", 7).due(1, "count", 3).due(1, "count", 4).due(1, "count", 5);
        }
        run.due(9, "filter", 4).due(7, "slack", 100);
        for (int what = 0; what < 6; what++) run.due(70 + what, "pool", what, 0);
        run.due(1, "ebb", 0).due(1, "ebb", 7);
        // What was dropped since does not come back.
        run.due(8, "keep", 0).due(4, "clear").due(8, "back", 0).due(0, "count", 7).due(0, "ebb", 0).due(4, "filter", 4);
    }

    private static void keptAgain() {
        Check.says("IMAGES 0, 1 keep CELLS, ZONES, HEADS, THE LAKE, what is GONE");
        Run run = Run.ofDam("row 0 a.......;").due(1, "keep", 0).dam(2, "row 0 bb......;").due(2, "keep", 1).dam(3, "row 0 ccc.....;");
        run.due(1, "back", 0).due(0, "cell", 0, 0, 0).due(2, "back", 1).due(1, "cell", 0, 0, 0);
        // The last one kept counts; the other stays.
        run.dam(4, "row 0 dddd....;").due(4, "keep", 0).due(2, "back", 1).due(4, "back", 0).due(3, "cell", 0, 0, 0);
        // What is done behind back() leaves the IMAGE as it is.
        run.does("lake", 6).does("sweep", 9).does("day").does("zone", 3, 0, 99).does("dry").does("highest").does("breach").does("fits");
        run.due(4, "back", 0).due(0, "count", 6).due(0, "count", 1).due(10, "zone", 3, 0, 10).due(0, "cell", 0, 0, 1);
    }

    private static void counts() {
        Check.says("0 EARTH, 1 GONE, 2 WET, 3 GAUGES, 4 CAUSES, 5 WORKS, 6 THE LAKE, 7 bytes of THE TEXT. BAD.");
        Run empty = new Run();
        for (int what = 0; what < 8; what++) empty.due(0, "count", what);
        Run run = new Run();
        for (int y = 0; y < 6; y++) run.type("row " + y + " aaaaaaaa;");
        run.due(48, "dam").due(48, "count", 0).due(0, "count", 1);
        for (int i = 1; i <= 8; i++) {
            run.does("gauge", 0, 0, 0).due(i, "count", 3).does("cause", 0, 1).due(i, "count", 4).does("work", 1, 0, 0, 0, 0).due(i, "count", 5);
        }
        run.does("lake", 6).due(6, "count", 6).type(" ".repeat(400)).due(400, "count", 7);
        for (int what : new int[] {-1, 8, 9, -8, 256, Integer.MIN_VALUE, Integer.MAX_VALUE}) {
            run.due(Run.BAD, "count", what);
            empty.due(Run.BAD, "count", what);
        }
        // At the slice's corners: (0, 0) and (7, 5).
        Run.ofDam("row 0 a.......;").due(1, "count", 0).does("lake", 1).due(1, "sweep", 1).due(1, "count", 2).due(1, "day").due(1, "count", 1);
        run = Run.ofDam("zone a 99 99 10;zone b 99 1 10;row 5 aaaaaaab;").due(8, "count", 0).does("lake", 6).does("sweep", 100).due(8, "count", 2).due(1, "day");
        run.due(1, "cell", 7, 5, 3).due(1, "count", 1).due(7, "count", 0).due(7, "count", 2);
        // GONE and EARTH are all that is not AIR; only EARTH is WET.
        run = Run.ofDam("row 1 a.......;row 2 a.......;row 5 a.......;").does("lake", 3).due(2, "sweep", 1).due(3, "count", 0).due(2, "day");
        run.due(1, "count", 0).due(2, "count", 1).due(0, "count", 2);
    }
}
