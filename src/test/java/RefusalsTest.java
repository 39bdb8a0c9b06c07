import java.util.LinkedHashSet;
import java.util.Set;

/**
 * "Refused, and nothing changes, the first of these: BAD (a number is not as told, or there is no such thing), STATE
 * (as told), FULL": every number of every call, beyond both of its ends and far off, on objects that are new, half
 * full and full, with all that can be told of the object behind it.
 */
public final class RefusalsTest {
    private static final String DAM = "zone a 40 1 10;zone b 9 30 50;row 0 aaaaaaab;row 1 .aaabbb.;row 2 ..ab....;row 4 a......b;";
    private static final String NEXT_DAM = "zone e 5 6 7;row 3 abcdef.a;row 0 .e......;";
    private static final int AIR_X = 0, AIR_Y = 5;

    /** A number of a call, where it stands, from what to what it goes, and what stands beside it. */
    private record Number(String words, String call, int at, long low, long high, long... args) {
    }

    private static final Number[] NUMBERS = {
        new Number("The lowest n (1 .. 8) bytes of v", "type", 1, 1, 8, 0x2020202020202020L, 1),
        new Number("7 from the lake to the foot", "cell", 0, 0, 7, 0, 0, 0),
        new Number("y 0 .. 5 from the ground up", "cell", 1, 0, 5, 0, 0, 0),
        new Number("Of a CELL: 0 its ZONE (NONE: AIR), 1 HEAD, 2 PUSH, 3 whether it is GONE.", "cell", 2, 0, 3, 0, 0, 0),
        new Number("Of a CELL: 0 its ZONE (NONE: AIR), 1 HEAD, 2 PUSH, 3 whether it is GONE.", "cell", 2, 0, 3, AIR_X, AIR_Y, 0),
        new Number("of a ZONE a .. f (0 .. 5)", "zone", 0, 0, 5, 0, 0, 50),
        new Number("LEAD (what = 0), HOLD (1), GRAIN (2) of a ZONE becomes v", "zone", 1, 0, 2, 0, 0, 50),
        new Number("LEAD, HOLD, GRAIN (1 .. 99; 10 each at first)", "zone", 2, 1, 99, 0, 0, 50),
        new Number("LEAD, HOLD, GRAIN (1 .. 99; 10 each at first)", "zone", 2, 1, 99, 5, 1, 50),
        new Number("LEAD, HOLD, GRAIN (1 .. 99; 10 each at first)", "zone", 2, 1, 99, 1, 2, 50),
        new Number("KINDS are over one another: 0 PART; 1 CELL, 4 CRACK", "load", 0, 0, 4, 0, 0, 0),
        new Number("KINDS are over one another: 0 PART; 1 CELL, 4 CRACK", "load", 0, 0, 4, 0, AIR_X, AIR_Y),
        new Number("7 from the lake to the foot", "load", 1, 0, 7, 1, 0, 0),
        new Number("y 0 .. 5 from the ground up", "load", 2, 0, 5, 1, 0, 0),
        new Number("THE LAKE is at 0 .. 6 (0 at first).", "lake", 0, 0, 6, 0),
        new Number("n SWEEPS (1 .. 100)", "sweep", 0, 1, 100, 1),
        new Number("its MARGIN (k = -1), the column where it begins (k = -2), its height in column k", "least", 0, -2, 7, 0),
        new Number("BAD: aims below 0.", "ways", 0, 0, Integer.MAX_VALUE, 0),
        new Number("F: FILTER, 2 .. 9; 4 at first", "filter", 0, 2, 9, 3),
        new Number("0 GATE, 1 CREST, 2 SPILL, 3 TOP, 4 LIMIT, 5 W 0 becomes v: what it was. BAD.", "pool", 0, 0, 5, 0, 3),
        new Number("W 0: 0 .. 9999", "pool", 1, 0, 9999, 0, 3),
        new Number("W 0: 0 .. 9999", "pool", 1, 0, 9999, 5, 3),
        new Number("FLOODS 0 .. 7 are rows of water", "flood", 0, 0, 7, 0, 3),
        new Number("(12 at most, 0 .. 999 each; empty at first)", "flood", 1, 0, 999, 0, 3),
        new Number("(12 at most, 0 .. 999 each; empty at first)", "flood", 1, 0, 999, 7, 3),
        new Number("FLOODS 0 .. 7 are rows of water", "ebb", 0, 0, 7, 0),
        new Number("FLOODS 0 .. 7 are rows of water", "route", 0, 0, 7, 0, 0, 0),
        new Number("Of a FLOOD by a RULE (0 .. 9999)", "route", 1, 0, 9999, 0, 0, 0),
        new Number("0 W at the end, 1 HOURS that are OVER, 2 TOWN, 3 whether it is SAFE, 4 all that was let out. BAD.", "route", 2, 0, 4, 0, 0, 0),
        new Number("BEST RULE (what = 0), how many FLOODS are SAFE by it (1). BAD.", "best", 0, 0, 1, 0),
        new Number("7 from the lake to the foot", "gauge", 0, 0, 7, 0, 0, 5),
        new Number("y 0 .. 5 from the ground up", "gauge", 1, 0, 5, 0, 0, 5),
        new Number("GAUGES (8 at most) at CELLS read a HEAD 0 .. 9999.", "gauge", 2, 0, 9999, 0, 0, 5),
        new Number("of a ZONE a .. f (0 .. 5)", "cause", 0, 0, 5, 0, 5),
        new Number("LEAD, HOLD, GRAIN (1 .. 99; 10 each at first)", "cause", 1, 1, 99, 0, 5),
        new Number("SLACK (0 .. 999; 100 at first)", "slack", 0, 0, 999, 5),
        new Number("NEXT GAUGE: 8 times y and x (what = 0), how far apart (1); NONE. BAD.", "next", 0, 0, 1, 0),
        new Number("0 BERM", "work", 0, 0, 0, 0, 0, 0, 5, 5),
        new Number("1 DRAIN", "work", 0, 1, 1, 1, 0, 0, 0, 5),
        new Number("(BERM: column, 0, so much more, 1 .. 99; DRAIN: CELL, 0). BAD; FULL.", "work", 1, 0, 7, 0, 0, 0, 5, 5),
        new Number("(BERM: column, 0, so much more, 1 .. 99; DRAIN: CELL, 0). BAD; FULL.", "work", 2, 0, 0, 0, 0, 0, 5, 5),
        new Number("(BERM: column, 0, so much more, 1 .. 99; DRAIN: CELL, 0). BAD; FULL.", "work", 3, 1, 99, 0, 0, 0, 5, 5),
        new Number("They have a PRICE 0 .. 999.", "work", 4, 0, 999, 0, 0, 0, 5, 5),
        new Number("(BERM: column, 0, so much more, 1 .. 99; DRAIN: CELL, 0). BAD; FULL.", "work", 1, 0, 7, 1, 0, 0, 0, 5),
        new Number("(BERM: column, 0, so much more, 1 .. 99; DRAIN: CELL, 0). BAD; FULL.", "work", 2, 0, 5, 1, 0, 0, 0, 5),
        new Number("(BERM: column, 0, so much more, 1 .. 99; DRAIN: CELL, 0). BAD; FULL.", "work", 3, 0, 0, 1, 0, 0, 0, 5),
        new Number("They have a PRICE 0 .. 999.", "work", 4, 0, 999, 1, 0, 0, 0, 5),
        new Number("CHEAPEST set by which LEAST is an AIM (0 .. 9999) at least", "cheapest", 0, 0, 9999, 5, 0),
        new Number("CHEAPEST: PRICE (what = 0), the set (1); NONE. BAD.", "cheapest", 1, 0, 1, 5, 0),
        new Number("IMAGES 0, 1 keep", "keep", 0, 0, 1, 0),
        new Number("IMAGES 0, 1 keep", "back", 0, 0, 1, 0),
        new Number("0 EARTH, 1 GONE, 2 WET, 3 GAUGES, 4 CAUSES, 5 WORKS, 6 THE LAKE, 7 bytes of THE TEXT. BAD.", "count", 0, 0, 7, 0),
    };

    private static final Twins NEW = new Twins("a new object", run -> { });
    private static final Twins HALF = new Twins("a half full object", RefusalsTest::makeHalf);
    private static final Twins WHOLE = new Twins("a full object", RefusalsTest::makeFull);
    private static final Twins[] ALL = {NEW, HALF, WHOLE};

    public static void main(String[] args) {
        theObjectsAreAsTold();
        for (Number number : NUMBERS) beyondItsEnds(number);
        severalNumbersAtOnce();
        state();
        full();
        badAheadOfState();
        badAheadOfFull();
        badAheadOfNone();
        faultChangesNothing();
        whatIsToldChangesNothing();
        Check.end();
    }

    private static void makeHalf(Run run) {
        run.type(DAM).call("dam");
        run.call("lake", 3);
        run.call("sweep", 30);
        run.call("day");
        run.call("keep", 0);
        run.call("lake", 2);
        run.call("sweep", 5);
        run.call("filter", 5);
        for (int i = 0; i < 3; i++) {
            run.call("cause", i % 2, 1 + 40 * i);
            run.call("work", 0, 6 - i, 0, 9 + i, 20 + i);
        }
        run.call("gauge", 3, 0, 1500);
        run.call("slack", 500);
        run.call("pool", 5, 900);
        run.call("flood", 0, 300);
        run.call("flood", 7, 999);
        run.call("load", 2, 0, 0);
        run.type(NEXT_DAM);
    }

    private static void makeFull(Run run) {
        run.type(DAM).call("dam");
        run.call("keep", 1);
        run.call("lake", 5);
        run.call("sweep", 60);
        run.call("day");
        run.call("keep", 0);
        run.call("day");
        for (int i = 0; i < 8; i++) {
            run.call("cause", i % 2, 1 + 12 * i);
            run.call("work", i % 2, 7 - i / 2, i % 2 == 0 ? 0 : i % 3, i % 2 == 0 ? 10 + i : 0, 3 * i);
            run.call("gauge", i, i % 3, 3000 - 300 * i);
        }
        run.call("slack", 999);
        for (int hour = 0; hour < 12; hour++) {
            run.call("flood", 0, 80 * hour);
            run.call("flood", 7, 999 - 80 * hour);
        }
        run.type(" ".repeat(400 - NEXT_DAM.length()) + NEXT_DAM);
    }

    private static void theObjectsAreAsTold() {
        Run run = new Run();
        makeHalf(run);
        run.due(2, "count", 6).due(3, "count", 4).due(3, "count", 5).due(1, "count", 3).due(NEXT_DAM.length(), "count", 7).due(Run.STATE, "back", 1);
        Check.holds("something is GONE", run.call("count", 1) > 0);
        Check.holds("some CAUSES FIT", run.call("fits") > 0);
        run.due(Run.NONE, "cell", AIR_X, AIR_Y, 0).due(8, "dam");
        run = new Run();
        makeFull(run);
        for (int what = 3; what < 6; what++) run.due(8, "count", what);
        run.due(400, "count", 7).due(Run.NONE, "cell", AIR_X, AIR_Y, 0).does("back", 0).does("back", 1).due(12, "ebb", 0).due(12, "ebb", 7).due(8, "dam");
    }

    private static void beyondItsEnds(Number number) {
        Check.says(number.words);
        for (Twins twins : ALL) {
            twins.takes(number.call, with(number, number.low));
            twins.takes(number.call, with(number, number.high));
            for (long wrong : wrongFor(number)) twins.refuses(Run.BAD, number.call, with(number, wrong));
        }
    }

    private static long[] with(Number number, long v) {
        long[] args = number.args.clone();
        args[number.at] = v;
        return args;
    }

    /** Just beyond, far beyond, and what would be within if it were cut to fewer bits. */
    private static Set<Long> wrongFor(Number number) {
        Set<Long> wrong = new LinkedHashSet<>();
        long[] drawn = {number.low - 1, number.high + 1, Integer.MIN_VALUE, Integer.MAX_VALUE};
        for (long v : drawn) wrong.add(v);
        for (int bits : new int[] {3, 8, 16, 29, 31}) {
            wrong.add(number.low + (1L << bits));
            wrong.add(number.high - (1L << bits));
        }
        wrong.removeIf(v -> v >= number.low && v <= number.high || v < Integer.MIN_VALUE || v > Integer.MAX_VALUE);
        // Of the other kind of WORK: what is wrong for this one may be right there.
        if (number.call.equals("work") && number.at == 0) wrong.removeIf(v -> v == 1 - number.low && number.args[3] == (v == 0 ? 1 : 0));
        return wrong;
    }

    private static void severalNumbersAtOnce() {
        Check.says("BAD (a number is not as told, or there is no such thing)");
        for (Twins twins : ALL) {
            twins.refuses(Run.BAD, "cell", -1, 6, 4);
            twins.refuses(Run.BAD, "cell", 8, -1, 0);
            twins.refuses(Run.BAD, "zone", 6, 3, 100);
            twins.refuses(Run.BAD, "load", 5, 8, 6);
            twins.refuses(Run.BAD, "pool", 6, 10000);
            twins.refuses(Run.BAD, "flood", 8, 1000);
            twins.refuses(Run.BAD, "route", 8, 10000, 5);
            twins.refuses(Run.BAD, "gauge", 8, 6, 10000);
            twins.refuses(Run.BAD, "cause", 6, 100);
            twins.refuses(Run.BAD, "work", 2, 8, 6, 100, 1000);
            twins.refuses(Run.BAD, "cheapest", 10000, 2);
        }
    }

    private static void state() {
        Check.says("STATE: it is AIR (of 1 to 3).");
        for (Twins twins : ALL) for (int what = 1; what < 4; what++) twins.refuses(Run.STATE, "cell", AIR_X, AIR_Y, what);
        Check.says("BAD; STATE: it is AIR.");
        for (Twins twins : ALL) for (int kind = 0; kind < 5; kind++) twins.refuses(Run.STATE, "load", kind, AIR_X, AIR_Y);
        Check.says("STATE: none was kept.");
        NEW.refuses(Run.STATE, "back", 0);
        NEW.refuses(Run.STATE, "back", 1);
        HALF.refuses(Run.STATE, "back", 1);
    }

    private static void full() {
        Check.says("come to THE TEXT: how many it has. BAD; FULL.");
        for (int n = 1; n <= 8; n++) WHOLE.refuses(Run.FULL, "type", 0x2020202020202020L, n);
        Check.says("Water of an HOUR comes to a FLOOD: how many HOURS it has. BAD; FULL.");
        for (int water : new int[] {0, 999}) {
            WHOLE.refuses(Run.FULL, "flood", 0, water);
            WHOLE.refuses(Run.FULL, "flood", 7, water);
        }
        Check.says("A GAUGE: its number. BAD; FULL.");
        WHOLE.refuses(Run.FULL, "gauge", 0, 0, 0);
        WHOLE.refuses(Run.FULL, "gauge", 7, 5, 9999);
        Check.says("A CAUSE: its number. BAD; FULL.");
        WHOLE.refuses(Run.FULL, "cause", 0, 1);
        WHOLE.refuses(Run.FULL, "cause", 5, 99);
        Check.says("A WORK: its number");
        WHOLE.refuses(Run.FULL, "work", 0, 0, 0, 1, 0);
        WHOLE.refuses(Run.FULL, "work", 1, 7, 5, 0, 999);
        // One FLOOD that is full leaves room in the others.
        WHOLE.takes("flood", 1, 5);
    }

    private static void badAheadOfState() {
        Check.says("the first of these: BAD (a number is not as told, or there is no such thing), STATE (as told), FULL.");
        for (Twins twins : ALL) {
            for (int what : new int[] {-1, 4}) twins.refuses(Run.BAD, "cell", AIR_X, AIR_Y, what);
            for (int kind : new int[] {-1, 5}) twins.refuses(Run.BAD, "load", kind, AIR_X, AIR_Y);
            twins.refuses(Run.BAD, "load", 0, AIR_X, 6);
            twins.refuses(Run.BAD, "back", 2);
        }
    }

    private static void badAheadOfFull() {
        Check.says("the first of these: BAD (a number is not as told, or there is no such thing), STATE (as told), FULL.");
        for (int n : new int[] {0, 9}) WHOLE.refuses(Run.BAD, "type", 32, n);
        for (int water : new int[] {-1, 1000}) WHOLE.refuses(Run.BAD, "flood", 0, water);
        for (int x : new int[] {-1, 8}) WHOLE.refuses(Run.BAD, "gauge", x, 0, 0);
        for (int lead : new int[] {0, 100}) WHOLE.refuses(Run.BAD, "cause", 0, lead);
        for (int more : new int[] {0, 100}) WHOLE.refuses(Run.BAD, "work", 0, 0, 0, more, 0);
        WHOLE.refuses(Run.BAD, "work", 1, 0, 0, 1, 0);
        WHOLE.refuses(Run.BAD, "work", 0, 0, 1, 1, 0);
    }

    private static void badAheadOfNone() {
        Check.says("NONE (also of a column ahead of its beginning). BAD.");
        for (int k : new int[] {-3, 8}) NEW.refuses(Run.BAD, "least", k);
        Check.says("how far apart (1); NONE. BAD.");
        for (int what : new int[] {-1, 2}) NEW.refuses(Run.BAD, "next", what);
        Check.says("the set (1); NONE. BAD.");
        WHOLE.refuses(Run.BAD, "cheapest", 9999, 2);
        WHOLE.refuses(Run.BAD, "cheapest", 10000, 0);
    }

    private static void faultChangesNothing() {
        Check.says("-10 less FAULT: nothing changes.");
        String[] texts = {"!", "zone f 9 9 9;row 0 ffffffff;row 1 fffffff;", "zone f 9 9 9;zone f 9 9 9 ", "row 0 ........;row 6 ........;", "zone a 1 1 1;".repeat(21)};
        int[] places = {0, 34, 26, 19, 260};
        for (int i = 0; i < texts.length; i++) {
            String text = texts[i];
            new Twins("a new object with a fault", run -> run.type(text)).refuses(-10 - places[i], "dam");
            new Twins("a half full object with a fault", run -> {
                makeHalf(run);
                run.call("clear");
                run.type(text);
            }).refuses(-10 - places[i], "dam");
        }
    }

    private static void whatIsToldChangesNothing() {
        Check.says("(Told as if: nothing goes but by day().)");
        for (Twins twins : ALL) {
            for (String call : new String[] {"breach", "highest", "seep", "fits", "trace"}) twins.tells(call);
            for (int what = 0; what < 2; what++) {
                twins.tells("next", what);
                twins.tells("best", what);
                twins.tells("cheapest", 300, what);
                twins.tells("least", -what);
            }
            twins.tells("ways", 500);
            for (int what = 0; what < 5; what++) twins.tells("route", 0, 100, what);
            for (int what = 0; what < 8; what++) twins.tells("count", what);
            for (int what = 0; what < 4; what++) twins.tells("cell", 0, 0, what);
        }
    }
}
