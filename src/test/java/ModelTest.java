import java.util.Random;

/** All promises: runs of calls drawn by fixed seeds, each answered by the class as by Model. */
public final class ModelTest {
    private static final int RUNS = 400;
    private static final int CALLS = 300;
    private static final int DEAR_ONE_IN = 12;

    private final Random random;
    private final EarthBanks banks = new EarthBanks();
    private final Model model = new Model();
    private final int run;

    private ModelTest(int run) {
        this.run = run;
        this.random = new Random(run);
    }

    public static void main(String[] args) {
        for (int run = 0; run < RUNS; run++) new ModelTest(run).go();
        Check.end();
    }

    private void go() {
        typeText(goodText());
        same("dam()", banks.dam(), model.dam());
        for (int i = 0; i < CALLS; i++) anyCall();
        for (int y = 0; y < 6; y++) {
            for (int x = 0; x < 8; x++) {
                for (int what = 0; what < 4; what++) {
                    same("cell(" + x + ", " + y + ", " + what + ")", banks.cell(x, y, what), model.cell(x, y, what));
                }
            }
        }
    }

    private void same(String call, long got, long want) {
        Check.due("run " + run + ": " + call, got, want);
    }

    private int upTo(int n) {
        return random.nextInt(n + 1);
    }

    /** Mostly low .. high; now and then just beyond, or far. */
    private int about(int low, int high) {
        int dice = random.nextInt(60);
        if (dice == 0) return low - 1;
        if (dice == 1) return high + 1;
        if (dice == 2) return random.nextInt();
        if (dice == 3) return low;
        if (dice == 4) return high;
        return low + random.nextInt(high - low + 1);
    }

    private String goodText() {
        StringBuilder text = new StringBuilder();
        int items = 1 + upTo(9);
        for (int i = 0; i < items; i++) text.append(item());
        return text.toString();
    }

    private String item() {
        StringBuilder text = new StringBuilder();
        if (random.nextInt(3) == 0) {
            text.append("zone ").append((char) ('a' + upTo(5)));
            for (int i = 0; i < 3; i++) text.append(' ').append(1 + upTo(random.nextBoolean() ? 98 : 9));
        } else {
            text.append("row ").append(upTo(random.nextBoolean() ? 2 : 5)).append(' ');
            int air = upTo(3);
            for (int x = 0; x < 8; x++) text.append(random.nextInt(8) < air ? '.' : (char) ('a' + upTo(upTo(5))));
        }
        return text.append(random.nextInt(5) == 0 ? " ; " : ";").toString();
    }

    private String spoilt(String text) {
        StringBuilder spoilt = new StringBuilder(text);
        int times = 1 + upTo(1);
        for (int i = 0; i < times && spoilt.length() > 0; i++) {
            int at = random.nextInt(spoilt.length());
            int dice = random.nextInt(4);
            if (dice == 0) spoilt.deleteCharAt(at);
            else if (dice == 1) spoilt.setLength(at);
            else if (dice == 2) spoilt.insert(at, "az. 09;!A".charAt(random.nextInt(9)));
            else spoilt.setCharAt(at, (char) random.nextInt(256));
        }
        return spoilt.toString();
    }

    private void typeText(String text) {
        for (int from = 0; from < text.length(); from += 8) {
            int to = Math.min(text.length(), from + 8);
            long v = random.nextLong();
            for (int i = from; i < to; i++) v = v << 8 | text.charAt(i);
            same("type(" + v + ", " + (to - from) + ")", banks.type(v, to - from), model.type(v, to - from));
        }
    }

    private void anyCall() {
        int dice = random.nextInt(100);
        if (dice < 8) damCall();
        else if (dice < 30) waterCall();
        else if (dice < 45) grainCall();
        else if (dice < 60) floodCall();
        else if (dice < 80) listCall();
        else if (dice < 92) imageCall();
        else if (random.nextInt(DEAR_ONE_IN) == 0) dearCall();
    }

    private void damCall() {
        int dice = random.nextInt(6);
        if (dice == 0) same("clear()", banks.clear(), model.clear());
        else if (dice == 1) {
            typeText(goodText());
            same("dam()", banks.dam(), model.dam());
        } else if (dice == 2) {
            typeText(spoilt(goodText()));
            same("dam()", banks.dam(), model.dam());
            if (random.nextInt(3) != 0) same("clear()", banks.clear(), model.clear());
        } else {
            int z = about(0, 5);
            int what = about(0, 2);
            int v = about(1, 99);
            same("zone(" + z + ", " + what + ", " + v + ")", banks.zone(z, what, v), model.zone(z, what, v));
        }
    }

    private void waterCall() {
        int dice = random.nextInt(10);
        int x = about(0, 7);
        int y = about(0, 5);
        if (dice < 2) {
            int v = about(0, 6);
            same("lake(" + v + ")", banks.lake(v), model.lake(v));
        } else if (dice < 6) {
            int n = random.nextInt(4) == 0 ? about(1, 100) : about(1, 9);
            same("sweep(" + n + ")", banks.sweep(n), model.sweep(n));
        } else if (dice == 6) same("seep()", banks.seep(), model.seep());
        else if (dice == 7) {
            if (random.nextInt(4) == 0) same("dry()", banks.dry(), model.dry());
        } else {
            int kind = about(0, 4);
            same("load(" + kind + ", " + x + ", " + y + ")", banks.load(kind, x, y), model.load(kind, x, y));
            same("trace()", banks.trace(), model.trace());
            int what = about(0, 3);
            same("cell(" + x + ", " + y + ", " + what + ")", banks.cell(x, y, what), model.cell(x, y, what));
        }
    }

    private void grainCall() {
        int dice = random.nextInt(5);
        if (dice == 0) {
            int v = about(2, 9);
            same("filter(" + v + ")", banks.filter(v), model.filter(v));
        } else if (dice == 1) same("day()", banks.day(), model.day());
        else if (dice < 4) same("breach()", banks.breach(), model.breach());
        else same("highest()", banks.highest(), model.highest());
    }

    private void floodCall() {
        int dice = random.nextInt(12);
        int i = about(0, 7);
        if (dice < 2) {
            int what = about(0, 5);
            int v = random.nextBoolean() ? about(0, 9999) : about(0, 400);
            same("pool(" + what + ", " + v + ")", banks.pool(what, v), model.pool(what, v));
        } else if (dice < 7) {
            int water = about(0, 999);
            same("flood(" + i + ", " + water + ")", banks.flood(i, water), model.flood(i, water));
        } else if (dice == 7) same("ebb(" + i + ")", banks.ebb(i), model.ebb(i));
        else if (dice < 11) {
            int rule = random.nextBoolean() ? about(0, 9999) : about(0, 2000);
            int what = about(0, 4);
            same("route(" + i + ", " + rule + ", " + what + ")", banks.route(i, rule, what), model.route(i, rule, what));
        } else {
            int what = about(0, 1);
            same("best(" + what + ")", banks.best(what), model.best(what));
        }
    }

    private void listCall() {
        int dice = random.nextInt(10);
        int x = about(0, 7);
        int y = about(0, random.nextBoolean() ? 1 : 5);
        if (dice == 0) {
            int reads = random.nextInt(4) == 0 ? about(0, 9999) : Math.max(0, model.cell(x, y, 1)) + upTo(300);
            same("gauge(" + x + ", " + y + ", " + reads + ")", banks.gauge(x, y, reads), model.gauge(x, y, reads));
        } else if (dice < 3) {
            int zone = about(0, random.nextBoolean() ? 1 : 5);
            int lead = about(1, 99);
            same("cause(" + zone + ", " + lead + ")", banks.cause(zone, lead), model.cause(zone, lead));
        } else if (dice < 5) {
            int v = about(0, 999);
            same("slack(" + v + ")", banks.slack(v), model.slack(v));
        } else if (dice == 5) same("fits()", banks.fits(), model.fits());
        else if (dice == 6) {
            int what = about(0, 1);
            same("next(" + what + ")", banks.next(what), model.next(what));
        } else {
            int kind = about(0, 1);
            int more = kind == 1 ? about(0, 0) : about(1, 99);
            int height = kind == 0 ? about(0, 0) : y;
            int price = about(0, random.nextBoolean() ? 5 : 999);
            same("work(" + kind + ", " + x + ", " + height + ", " + more + ", " + price + ")", banks.work(kind, x, height, more, price), model.work(kind, x, height, more, price));
        }
    }

    private void imageCall() {
        int dice = random.nextInt(6);
        int image = about(0, 1);
        if (dice == 0) same("keep(" + image + ")", banks.keep(image), model.keep(image));
        else if (dice == 1) same("back(" + image + ")", banks.back(image), model.back(image));
        else {
            int what = about(0, 7);
            same("count(" + what + ")", banks.count(what), model.count(what));
        }
    }

    private void dearCall() {
        for (int k = -2; k < 8; k += 1 + upTo(3)) same("least(" + k + ")", banks.least(k), model.least(k));
        int aim = about(0, random.nextBoolean() ? 9999 : 600);
        same("ways(" + aim + ")", banks.ways(aim), model.ways(aim));
        int margin = model.least(-1);
        int above = margin < 0 ? aim : margin + upTo(margin);
        same("cheapest(" + above + ", 0)", banks.cheapest(above, 0), model.cheapest(above, 0));
        same("cheapest(" + above + ", 1)", banks.cheapest(above, 1), model.cheapest(above, 1));
        same("cheapest(" + aim + ", 1)", banks.cheapest(aim, 1), model.cheapest(aim, 1));
    }
}
