/** Edges of promises 18 to 22: THE POOL, FLOODS, routes, BEST RULE. */
public final class EdgesOfFloodsTest {
    private static final int GATE = 0, CREST = 1, SPILL = 2, TOP = 3, LIMIT = 4, FIRST = 5;

    public static void main(String[] args) {
        pool();
        whatThePoolBeginsWith();
        whichFloods();
        hours();
        waters();
        ebb();
        emptyFloods();
        ruleOfTheGate();
        allIfThatIsLess();
        aboveTheCrest();
        spillAtMost();
        overTheTop();
        limitOfTheTown();
        waterBeyondAllLimits();
        numbersOfARoute();
        rulesThatAreTried();
        ofSeveralTheGreatest();
        Check.end();
    }

    private static void route(Run run, int flood, int rule, int... want) {
        for (int what = 0; what < 5; what++) run.due(want[what], "route", flood, rule, what);
    }

    /** One HOUR that begins with so much W, and nothing comes. */
    private static Run hour(int water) {
        return new Run().does("pool", FIRST, water).due(1, "flood", 0, 0);
    }

    private static void pool() {
        Check.says("(GATE, CREST, SPILL, TOP, LIMIT, W 0: 0 .. 9999; 50, 1000, 100, 2000, 120, 0 at first.)");
        int[] first = {50, 1000, 100, 2000, 120, 0};
        Run run = new Run();
        for (int what = 0; what < 6; what++) {
            run.due(Run.BAD, "pool", what, -1).due(Run.BAD, "pool", what, 10000).due(first[what], "pool", what, 0);
            run.due(0, "pool", what, 9999).due(Run.BAD, "pool", what, 10000).due(9999, "pool", what, 100 + what);
            for (int v : new int[] {Integer.MIN_VALUE, Integer.MAX_VALUE, 65536, -65536 + 5}) run.due(Run.BAD, "pool", what, v);
        }
        for (int what = 0; what < 6; what++) run.due(100 + what, "pool", what, 100 + what);
        Check.says("Of THE POOL: 0 GATE, 1 CREST, 2 SPILL, 3 TOP, 4 LIMIT, 5 W 0 becomes v: what it was. BAD.");
        for (int what : new int[] {-1, 6, 256, Integer.MIN_VALUE, Integer.MAX_VALUE}) run.due(Run.BAD, "pool", what, 7);
        for (int what = 0; what < 6; what++) run.due(100 + what, "pool", what, 7);
    }

    private static void whatThePoolBeginsWith() {
        Check.says("THE POOL begins with W 0. (0 .. 9999; 0 at first.)");
        Run run = new Run().does("pool", CREST, 9999).due(1, "flood", 0, 7).due(0, "route", 1, 9999, 0).due(7, "route", 0, 9999, 0);
        run.due(0, "pool", FIRST, 9999).due(9999, "route", 1, 9999, 0).does("pool", GATE, 0).does("pool", SPILL, 0).due(10006, "route", 0, 9999, 0);
    }

    private static void whichFloods() {
        Check.says("FLOODS 0 .. 7 are rows of water that comes by hours");
        Run run = new Run();
        // Aliases of 0 by twelve and by eight hours would be places that wrap around.
        for (int i : new int[] {-1, 8, 9, -8, 256, 1 << 30, 357913942, Integer.MIN_VALUE, Integer.MAX_VALUE}) {
            run.due(Run.BAD, "flood", i, 1).due(Run.BAD, "ebb", i).due(Run.BAD, "route", i, 0, 0);
        }
        for (int i = 0; i < 8; i++) for (int hour = 0; hour <= i; hour++) run.due(hour + 1, "flood", i, 10 + i);
        // By the RULE 9999 nothing is let out.
        for (int i = 0; i < 8; i++) run.due((i + 1) * (10 + i), "route", i, 9999, 0);
        for (int i = 0; i < 8; i++) run.due(i + 1, "ebb", i);
    }

    private static void hours() {
        Check.says("(12 at most, 0 .. 999 each; empty at first)");
        Run run = new Run();
        for (int i = 0; i < 8; i++) {
            run.due(0, "ebb", i);
            for (int hour = 1; hour <= 12; hour++) run.due(hour, "flood", i, 1);
            run.due(Run.FULL, "flood", i, 0).due(Run.FULL, "flood", i, 999).due(12, "route", i, 9999, 0);
        }
        for (int i = 0; i < 8; i++) run.due(12, "route", i, 9999, 0);
        Check.says("Refused, and nothing changes, the first of these: BAD");
        run.due(Run.BAD, "flood", 0, 1000).due(Run.BAD, "flood", 0, -1).due(Run.BAD, "flood", 8, 0).due(Run.BAD, "flood", -1, 0);
        run.due(12, "ebb", 0).due(1, "flood", 0, 5).due(5, "route", 0, 9999, 0);
    }

    private static void waters() {
        Check.says("(12 at most, 0 .. 999 each; empty at first)");
        Run run = new Run().due(Run.BAD, "flood", 3, -1).due(Run.BAD, "flood", 3, 1000).due(0, "ebb", 3);
        run.due(1, "flood", 3, 0).due(0, "route", 3, 9999, 0).due(2, "flood", 3, 999).due(999, "route", 3, 9999, 0);
        run.due(Run.BAD, "flood", 3, Integer.MIN_VALUE).due(Run.BAD, "flood", 3, Integer.MAX_VALUE).due(Run.BAD, "flood", 3, 65536).due(2, "ebb", 3);
    }

    private static void ebb() {
        Check.says("A FLOOD is empty: how many HOURS it had. BAD.");
        Run run = new Run();
        for (int i = 0; i < 8; i++) run.due(0, "ebb", i);
        run.does("flood", 0, 7).does("flood", 7, 8).due(1, "ebb", 0).due(0, "ebb", 0).due(8, "route", 7, 9999, 0).due(0, "route", 0, 9999, 0);
        for (int hour = 1; hour <= 12; hour++) run.due(hour, "flood", 0, hour);
        run.due(12, "ebb", 0).due(0, "ebb", 0).due(1, "flood", 0, 3).due(3, "route", 0, 9999, 0).due(1, "ebb", 7).due(Run.BAD, "ebb", 8).due(Run.BAD, "ebb", -1);
    }

    private static void emptyFloods() {
        Check.says("most FLOODS are SAFE (empty ones are)");
        // Though W 0 is above TOP, and nothing may be let out.
        Run run = new Run().does("pool", FIRST, 9999).does("pool", TOP, 0).does("pool", LIMIT, 0);
        for (int rule : new int[] {0, 100, 9999}) route(run, 5, rule, 9999, 0, 0, 1, 0);
        run.due(2000, "best", 0).due(8, "best", 1);
        // An HOUR without water is an HOUR.
        run.due(1, "flood", 5, 0);
        route(run, 5, 0, 9999 - 50 - 100, 1, 150, 0, 150);
        run.due(7, "best", 1);
    }

    private static void ruleOfTheGate() {
        Check.says("if W is the RULE at least then, the gate lets out GATE");
        Run run = hour(500);
        route(run, 0, 499, 450, 0, 50, 1, 50);
        route(run, 0, 500, 450, 0, 50, 1, 50);
        route(run, 0, 501, 500, 0, 0, 1, 0);
        route(run, 0, 0, 450, 0, 50, 1, 50);
        route(run, 0, 9999, 500, 0, 0, 1, 0);
        // By what has come in the HOUR.
        run.due(2, "flood", 0, 1);
        route(run, 0, 501, 451, 0, 50, 1, 50);
        // The RULE 0 with W 0, and the RULE 9999 with W 9999.
        route(hour(0), 0, 0, 0, 0, 0, 1, 0);
        run = hour(9999).does("pool", CREST, 9999).does("pool", TOP, 9999);
        route(run, 0, 9999, 9949, 0, 50, 1, 50);
        run.does("pool", FIRST, 9998);
        route(run, 0, 9999, 9998, 0, 0, 1, 0);
        // A gate of 0 lets out nothing.
        run.does("pool", GATE, 0);
        route(run, 0, 0, 9998, 0, 0, 1, 0);
    }

    private static void allIfThatIsLess() {
        Check.says("GATE (all, if that is less)");
        int[][] rows = {{49, 0, 49}, {50, 0, 50}, {51, 1, 50}, {1, 0, 1}};
        for (int[] row : rows) route(hour(row[0]), 0, 0, row[1], 0, row[2], 1, row[2]);
        Run run = hour(300).does("pool", GATE, 9999).does("pool", LIMIT, 300);
        route(run, 0, 300, 0, 0, 300, 1, 300);
    }

    private static void aboveTheCrest() {
        Check.says("then the spillway: of what is above CREST the half, rounded up");
        int[][] rows = {{999, 0}, {1000, 0}, {1001, 1}, {1002, 1}, {1003, 2}, {1004, 2}, {1005, 3}};
        for (int[] row : rows) route(hour(row[0]), 0, 9999, row[0] - row[1], 0, row[1], 1, row[1]);
        // Behind the gate: 1050 is 1000 then, 1051 is 1001.
        route(hour(1050), 0, 1000, 1000, 0, 50, 1, 50);
        route(hour(1051), 0, 1000, 1000, 0, 51, 1, 51);
        // CREST 0: half of all; of 1 it is 1, of 0 none.
        route(hour(9).does("pool", CREST, 0), 0, 9999, 4, 0, 5, 1, 5);
        route(hour(1).does("pool", CREST, 0), 0, 9999, 0, 0, 1, 1, 1);
        route(hour(0).does("pool", CREST, 0), 0, 9999, 0, 0, 0, 1, 0);
        // CREST 9999.
        route(hour(9999).does("pool", CREST, 9999).does("pool", TOP, 9999), 0, 9999, 9949, 0, 50, 1, 50);
    }

    private static void spillAtMost() {
        Check.says("the half, rounded up, SPILL at most");
        int[][] rows = {{1198, 99}, {1199, 100}, {1200, 100}, {1201, 100}, {1400, 100}};
        for (int[] row : rows) route(hour(row[0]), 0, 9999, row[0] - row[1], 0, row[1], 1, row[1]);
        route(hour(1400).does("pool", SPILL, 0), 0, 9999, 1400, 0, 0, 1, 0);
        route(hour(1400).does("pool", SPILL, 1), 0, 9999, 1399, 0, 1, 1, 1);
        route(hour(1400).does("pool", SPILL, 9999).does("pool", LIMIT, 200), 0, 9999, 1200, 0, 200, 1, 200);
    }

    private static void overTheTop() {
        Check.says("OVER is an HOUR with W above TOP at its end.");
        route(hour(2000).does("pool", SPILL, 0), 0, 9999, 2000, 0, 0, 1, 0);
        route(hour(2001).does("pool", SPILL, 0), 0, 9999, 2001, 1, 0, 0, 0);
        // At its end: the gate takes 2050 to 2000, and 2051 to 2001.
        route(hour(2050).does("pool", SPILL, 0), 0, 2000, 2000, 0, 50, 1, 50);
        route(hour(2051).does("pool", SPILL, 0), 0, 2000, 2001, 1, 50, 0, 50);
        route(hour(1).does("pool", TOP, 0), 0, 9999, 1, 1, 0, 0, 0);
        route(hour(1).does("pool", TOP, 0), 0, 0, 0, 0, 1, 1, 1);
        // Each HOUR for itself, and one is enough: 2001, then 1951.
        Run run = new Run().does("pool", SPILL, 0).does("pool", FIRST, 2051).due(1, "flood", 0, 0).due(2, "flood", 0, 0);
        route(run, 0, 2001, 1951, 1, 50, 0, 100);
        run = new Run().does("pool", TOP, 0).does("pool", GATE, 0);
        for (int hour = 1; hour <= 12; hour++) run.does("flood", 0, 1).due(hour, "route", 0, 9999, 1);
    }

    private static void limitOfTheTown() {
        Check.says("SAFE by a RULE: never OVER, TOWN no more than its LIMIT.");
        route(hour(300).does("pool", LIMIT, 50), 0, 0, 250, 0, 50, 1, 50);
        route(hour(300).does("pool", LIMIT, 49), 0, 0, 250, 0, 50, 0, 50);
        route(hour(0).does("pool", LIMIT, 0), 0, 0, 0, 0, 0, 1, 0);
        route(hour(1).does("pool", LIMIT, 0), 0, 0, 0, 0, 1, 0, 1);
        // Gate and spillway together: 50 and 70 are 120, 50 and 71 are 121.
        route(hour(1190), 0, 0, 1070, 0, 120, 1, 120);
        route(hour(1191), 0, 0, 1070, 0, 121, 0, 121);
        Check.says("TOWN: the greatest of what is let out in an HOUR.");
        // 30, 50, 40: the greatest, not the last, nor all of it.
        Run run = new Run().does("flood", 0, 30).does("flood", 0, 50).does("flood", 0, 40);
        route(run, 0, 0, 0, 0, 50, 1, 120);
    }

    private static void waterBeyondAllLimits() {
        Check.says("An HOUR: what comes is added");
        // 9999 and 12 times 999: W has no limit of its own.
        Run run = new Run().does("pool", FIRST, 9999).does("pool", GATE, 0).does("pool", SPILL, 0).does("pool", TOP, 9999);
        for (int hour = 0; hour < 12; hour++) run.does("flood", 0, 999);
        route(run, 0, 0, 21987, 12, 0, 0, 0);
        // Nor has what is let out: 9999, then all that is left, and 999 ten times.
        run.does("pool", GATE, 9999).does("pool", LIMIT, 9999);
        route(run, 0, 9999, 9999 + 12 * 999 - 9999 - 9999, 0, 9999, 1, 2 * 9999);
        route(run, 0, 0, 0, 0, 9999, 1, 21987);
        // Gate and spillway at once: 9999 of 10998, and half of 999.
        run.does("pool", SPILL, 9999).does("pool", CREST, 0).does("ebb", 0).does("flood", 0, 999);
        route(run, 0, 0, 499, 0, 10499, 0, 10499);
    }

    private static void numbersOfARoute() {
        Check.says("Of a FLOOD by a RULE (0 .. 9999)");
        Run run = hour(9999);
        run.due(Run.BAD, "route", 0, -1, 0).due(Run.BAD, "route", 0, 10000, 0).due(Run.BAD, "route", 0, Integer.MIN_VALUE, 0).due(Run.BAD, "route", 0, Integer.MAX_VALUE, 0);
        run.due(9849, "route", 0, 0, 0).due(9849, "route", 0, 9999, 0);
        run.due(Run.BAD, "route", 0, 0, -1).due(Run.BAD, "route", 0, 0, 5).due(Run.BAD, "route", 0, 0, Integer.MIN_VALUE).due(Run.BAD, "route", 0, 0, 256);
        Check.says("0 W at the end, 1 HOURS that are OVER, 2 TOWN, 3 whether it is SAFE, 4 all that was let out. BAD.");
        // Told of an empty one, too; and the FLOOD stays as it is.
        run.due(Run.BAD, "route", 1, 0, 5).due(Run.BAD, "route", 8, 0, 0).due(1, "route", 1, 0, 3);
        route(run, 0, 0, 9849, 1, 150, 0, 150);
        route(run, 0, 0, 9849, 1, 150, 0, 150);
        run.due(1, "ebb", 0).due(9999, "pool", FIRST, 0);
    }

    /** One FLOOD, SAFE just if the gate is open at so much W (open), or just if it is shut. */
    private static Run onlyIf(boolean open, int water) {
        Run run = hour(water).does("pool", CREST, 9999);
        return open ? run.does("pool", TOP, water - 1) : run.does("pool", TOP, 9999).does("pool", LIMIT, 0);
    }

    private static void rulesThatAreTried() {
        Check.says("BEST RULE: of 0, 100, .. 2000 that by which most FLOODS are SAFE");
        int[][] open = {{1, 0}, {99, 0}, {100, 100}, {101, 100}, {199, 100}, {200, 200}, {1899, 1800}, {1900, 1900}, {1999, 1900}, {2000, 2000}, {2001, 2000}, {2100, 2000}};
        for (int[] row : open) onlyIf(true, row[0]).due(row[1], "best", 0).due(8, "best", 1);
        // Shut: by any RULE above it; from 2000 on there is none.
        onlyIf(false, 1999).due(2000, "best", 0).due(8, "best", 1);
        onlyIf(false, 2000).due(2000, "best", 0).due(7, "best", 1);
        onlyIf(false, 2050).due(2000, "best", 0).due(7, "best", 1);
        Check.says("BEST RULE (what = 0), how many FLOODS are SAFE by it (1). BAD.");
        for (int what : new int[] {-1, 2, 3, 256, Integer.MIN_VALUE, Integer.MAX_VALUE}) new Run().due(Run.BAD, "best", what);
    }

    private static void ofSeveralTheGreatest() {
        Check.says("of several the greatest.");
        new Run().due(2000, "best", 0).due(8, "best", 1);
        // None is SAFE by any: all of them are OVER.
        Run run = new Run().does("pool", FIRST, 9999).does("pool", TOP, 0);
        for (int i = 0; i < 8; i++) run.does("flood", i, 0);
        run.due(2000, "best", 0).due(0, "best", 1);
        // By rules to 300 the gate lets out too much of all three, by those from 400 on only the first is OVER.
        run = new Run().does("pool", CREST, 9999).does("pool", TOP, 349).does("pool", LIMIT, 49).does("pool", GATE, 50);
        run.does("flood", 0, 350).does("flood", 1, 340).does("flood", 2, 345);
        run.due(2000, "best", 0).due(7, "best", 1);
        // It may let out 50: by rules to 300 all are SAFE.
        run = new Run().does("pool", CREST, 9999).does("pool", TOP, 349).does("pool", LIMIT, 50).does("flood", 0, 350).does("flood", 1, 360);
        run.due(300, "best", 0).due(8, "best", 1);
    }
}
