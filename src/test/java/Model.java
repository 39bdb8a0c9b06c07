import java.util.ArrayList;
import java.util.List;
import java.util.regex.Matcher;
import java.util.regex.Pattern;

/**
 * The document once more, as plainly as its words go and without any care for speed: all WAYS are listed, all sets
 * of WORKS are tried with all of them. ModelTest holds the class against it.
 */
final class Model {
    private static final int BAD = -1, STATE = -2, FULL = -3, NONE = -9;

    /** What an IMAGE keeps. */
    private static final class Bank {
        char[][] sign = new char[8][6];
        int[][] head = new int[8][6];
        boolean[][] gone = new boolean[8][6];
        int[][] zone = new int[6][3];
        int lake = 0;

        Bank() {
            for (char[] column : sign) java.util.Arrays.fill(column, '.');
            for (int[] traits : zone) java.util.Arrays.fill(traits, 10);
        }

        Bank twin() {
            Bank b = new Bank();
            for (int x = 0; x < 8; x++) {
                b.sign[x] = sign[x].clone();
                b.head[x] = head[x].clone();
                b.gone[x] = gone[x].clone();
            }
            for (int z = 0; z < 6; z++) b.zone[z] = zone[z].clone();
            b.lake = lake;
            return b;
        }

        boolean inside(int x, int y) {
            return x >= 0 && x < 8 && y >= 0 && y < 6;
        }

        boolean air(int x, int y) {
            return sign[x][y] == '.';
        }

        boolean earth(int x, int y) {
            return inside(x, y) && !air(x, y) && !gone[x][y];
        }

        int lead(int x, int y) {
            return zone[sign[x][y] - 'a'][0];
        }

        int hold(int x, int y) {
            return zone[sign[x][y] - 'a'][1];
        }

        int grain(int x, int y) {
            return zone[sign[x][y] - 'a'][2];
        }

        int push(int x, int y) {
            int push = head[x][y] - 1000 * y;
            return push < 0 ? 0 : push;
        }

        boolean wet(int x, int y) {
            return earth(x, y) && push(x, y) > 0;
        }

        List<int[]> around(int x, int y) {
            List<int[]> cells = new ArrayList<>();
            int[][] all = {{x, y + 1}, {x, y - 1}, {x - 1, y}, {x + 1, y}};
            for (int[] c : all) if (inside(c[0], c[1])) cells.add(c);
            return cells;
        }

        /** {sum of m times HEAD, sum of m}. */
        long[] flow(int x, int y) {
            long[] sums = new long[2];
            for (int[] c : around(x, y)) {
                if (!earth(c[0], c[1])) continue;
                long m = Math.min(lead(x, y), lead(c[0], c[1]));
                sums[0] += m * head[c[0]][c[1]];
                sums[1] += m;
            }
            return sums;
        }

        void sweep() {
            boolean[][] fixed = new boolean[8][6];
            for (int y = 0; y < lake; y++) {
                if (!earth(0, y)) continue;
                head[0][y] = 1000 * lake;
                fixed[0][y] = true;
            }
            if (earth(7, 0)) {
                head[7][0] = 0;
                fixed[7][0] = true;
            }
            for (int y = 0; y < 6; y++) {
                for (int x = 0; x < 8; x++) {
                    if (!earth(x, y) || fixed[x][y]) continue;
                    long[] sums = flow(x, y);
                    if (sums[1] != 0) head[x][y] = (int) (sums[0] / sums[1]);
                }
            }
        }

        void trial() {
            head = new int[8][6];
            for (int i = 0; i < 40; i++) sweep();
        }

        List<int[]> loose(int filter) {
            List<int[]> cells = new ArrayList<>();
            for (int x = 0; x < 8; x++) {
                for (int y = 0; y < 6; y++) {
                    if (!earth(x, y) || push(x, y) < 20 * hold(x, y)) continue;
                    boolean open = x == 7 || air(x + 1, y);
                    for (int[] c : around(x, y)) {
                        if (gone[c[0]][c[1]]) open = true;
                        if (earth(c[0], c[1]) && grain(c[0], c[1]) > filter * grain(x, y)) open = true;
                    }
                    if (open) cells.add(new int[] {x, y});
                }
            }
            return cells;
        }

        int breach(int filter) {
            Bank b = twin();
            for (int day = 1; ; day++) {
                List<int[]> cells = b.loose(filter);
                if (cells.isEmpty()) return NONE;
                for (int[] c : cells) b.gone[c[0]][c[1]] = true;
                for (int[] c : cells) if (c[0] == 0) return day;
            }
        }

        int count(java.util.function.BiPredicate<Integer, Integer> is) {
            int n = 0;
            for (int x = 0; x < 8; x++) for (int y = 0; y < 6; y++) if (is.test(x, y)) n++;
            return n;
        }

        /** All WAYS, by x where they begin, then by heights; each as {begin, height ..}. */
        List<int[]> ways() {
            List<int[]> ways = new ArrayList<>();
            for (int begin = 0; begin < 8; begin++) extend(new int[] {begin}, ways);
            return ways;
        }

        private void extend(int[] way, List<int[]> ways) {
            int x = way[0] + way.length - 1;
            if (x == 8) {
                ways.add(way);
                return;
            }
            for (int height = 0; height < 6; height++) {
                boolean falls = way.length == 1 || height <= way[way.length - 1];
                if (!falls || !earth(x, height)) continue;
                int[] longer = java.util.Arrays.copyOf(way, way.length + 1);
                longer[way.length] = height;
                extend(longer, ways);
            }
        }
    }

    private record Work(int kind, int x, int y, int more, int price) {
    }

    private final StringBuilder text = new StringBuilder();
    private Bank bank = new Bank();
    private final Bank[] images = new Bank[2];
    private int filter = 4;
    private long trace = 0;
    private final int[] pool = {50, 1000, 100, 2000, 120, 0};
    private final List<List<Integer>> floods = new ArrayList<>();
    private final List<int[]> gauges = new ArrayList<>();
    private final List<int[]> causes = new ArrayList<>();
    private int slack = 100;
    private final List<Work> works = new ArrayList<>();

    Model() {
        for (int i = 0; i < 8; i++) floods.add(new ArrayList<>());
    }

    private static boolean out(int v, int low, int high) {
        return v < low || v > high;
    }

    int type(long v, int n) {
        if (out(n, 1, 8)) return BAD;
        if (text.length() + n > 400) return FULL;
        for (int i = n; i >= 1; i--) text.append((char) (v >> 8 * (i - 1) & 255));
        return text.length();
    }

    int clear() {
        int n = text.length();
        text.setLength(0);
        return n;
    }

    private static final Pattern TOKEN = Pattern.compile(" *([a-z.]+|[0-9]+|;|[^ ])");
    private static final String NUMBER = "[1-9][0-9]?";

    int dam() {
        Bank b = new Bank();
        b.lake = bank.lake;
        List<String> tokens = new ArrayList<>();
        List<Integer> places = new ArrayList<>();
        Matcher matcher = Pattern.compile(TOKEN.pattern(), Pattern.DOTALL).matcher(text);
        while (matcher.find()) {
            tokens.add(matcher.group(1));
            places.add(matcher.start(1));
        }
        int items = 0;
        int at = 0;
        while (at < tokens.size()) {
            boolean zone = tokens.get(at).equals("zone");
            String[] forms = zone ? new String[] {"zone", "[a-f]", NUMBER, NUMBER, NUMBER, ";"} : new String[] {"row", "[0-5]", "[a-f.]{8}", ";"};
            if (items == 20) return -10 - places.get(at);
            for (int i = 0; i < forms.length; i++) {
                if (at + i >= tokens.size()) return -10 - text.length();
                if (!tokens.get(at + i).matches(forms[i])) return -10 - places.get(at + i);
            }
            if (zone) {
                for (int i = 0; i < 3; i++) b.zone[tokens.get(at + 1).charAt(0) - 'a'][i] = Integer.parseInt(tokens.get(at + 2 + i));
            } else {
                for (int x = 0; x < 8; x++) b.sign[x][Integer.parseInt(tokens.get(at + 1))] = tokens.get(at + 2).charAt(x);
            }
            at += forms.length;
            items++;
        }
        bank = b;
        text.setLength(0);
        return count(0);
    }

    int cell(int x, int y, int what) {
        if (!bank.inside(x, y) || out(what, 0, 3)) return BAD;
        if (bank.air(x, y)) return what == 0 ? NONE : STATE;
        return what == 0 ? bank.sign[x][y] - 'a' : what == 1 ? bank.head[x][y] : what == 2 ? bank.push(x, y) : bank.gone[x][y] ? 1 : 0;
    }

    int zone(int z, int what, int v) {
        if (out(z, 0, 5) || out(what, 0, 2) || out(v, 1, 99)) return BAD;
        int before = bank.zone[z][what];
        bank.zone[z][what] = v;
        return before;
    }

    int load(int kind, int x, int y) {
        if (out(kind, 0, 4) || !bank.inside(x, y)) return BAD;
        if (bank.air(x, y)) return STATE;
        int part = 10 + y;
        int cell = part + bank.push(x, y) / 100;
        long[] traces = {1, 11, 111, 1011, 10001};
        int[] loads = {part, cell, cell - cell / 3, cell / 2, part - bank.hold(x, y) / 10};
        trace += traces[kind];
        return loads[kind];
    }

    int lake(int v) {
        if (out(v, 0, 6)) return BAD;
        int before = bank.lake;
        bank.lake = v;
        return before;
    }

    int sweep(int n) {
        if (out(n, 1, 100)) return BAD;
        for (int i = 0; i < n; i++) bank.sweep();
        return count(2);
    }

    int seep() {
        return bank.earth(7, 0) ? (int) (bank.flow(7, 0)[0] / 1000) : 0;
    }

    int dry() {
        int n = bank.count((x, y) -> bank.head[x][y] > 0);
        bank.head = new int[8][6];
        return n;
    }

    private int margin(int[] way, int set) {
        int begin = way[0];
        long drive = 0;
        long rest = 0;
        for (int i = 1; i < way.length; i++) {
            int x = begin + i - 1;
            int fall = way[i] - (i + 1 < way.length ? way[i + 1] : 0);
            int above = 0;
            for (int y = way[i] + 1; y < 6; y++) {
                if (bank.earth(x, y)) above += wetWith(set, x, y) ? 2 : 1;
            }
            drive += (long) above * (1 + fall);
            int hold = bank.hold(x, way[i]);
            for (int w = 0; w < works.size(); w++) {
                if ((set & 1 << w) != 0 && works.get(w).kind == 0 && works.get(w).x == x) hold += works.get(w).more;
            }
            rest += wetWith(set, x, way[i]) ? hold / 2 : hold;
        }
        return drive == 0 ? 9999 : (int) Math.min(9999, 100 * rest / drive);
    }

    private boolean wetWith(int set, int x, int y) {
        for (int w = 0; w < works.size(); w++) {
            Work work = works.get(w);
            if ((set & 1 << w) != 0 && work.kind == 1 && work.x == x && work.y == y) return false;
        }
        return bank.wet(x, y);
    }

    int least(int k) {
        if (out(k, -2, 7)) return BAD;
        int[] least = null;
        for (int[] way : bank.ways()) if (least == null || margin(way, 0) < margin(least, 0)) least = way;
        if (least == null) return NONE;
        if (k < 0) return k == -1 ? margin(least, 0) : least[0];
        return k < least[0] ? NONE : least[1 + k - least[0]];
    }

    int ways(int aim) {
        if (aim < 0) return BAD;
        int n = 0;
        for (int[] way : bank.ways()) if (margin(way, 0) < aim) n++;
        return n;
    }

    int filter(int v) {
        if (out(v, 2, 9)) return BAD;
        int before = filter;
        filter = v;
        return before;
    }

    int day() {
        List<int[]> cells = bank.loose(filter);
        for (int[] c : cells) bank.gone[c[0]][c[1]] = true;
        return cells.size();
    }

    int breach() {
        return bank.breach(filter);
    }

    int highest() {
        int highest = NONE;
        for (int lake = 0; lake <= 6; lake++) {
            Bank b = bank.twin();
            b.lake = lake;
            b.trial();
            if (b.breach(filter) == NONE) highest = lake;
        }
        return highest;
    }

    int pool(int what, int v) {
        if (out(what, 0, 5) || out(v, 0, 9999)) return BAD;
        int before = pool[what];
        pool[what] = v;
        return before;
    }

    int flood(int i, int water) {
        if (out(i, 0, 7) || out(water, 0, 999)) return BAD;
        if (floods.get(i).size() == 12) return FULL;
        floods.get(i).add(water);
        return floods.get(i).size();
    }

    int ebb(int i) {
        if (out(i, 0, 7)) return BAD;
        int n = floods.get(i).size();
        floods.get(i).clear();
        return n;
    }

    int route(int i, int rule, int what) {
        if (out(i, 0, 7) || out(rule, 0, 9999) || out(what, 0, 4)) return BAD;
        int w = pool[5];
        int over = 0;
        int town = 0;
        int all = 0;
        for (int water : floods.get(i)) {
            w += water;
            int hour = 0;
            if (w >= rule) hour = w < pool[0] ? w : pool[0];
            int left = w - hour;
            if (left > pool[1]) {
                int half = (int) Math.ceil((left - pool[1]) / 2.0);
                hour += half < pool[2] ? half : pool[2];
            }
            w -= hour;
            all += hour;
            if (hour > town) town = hour;
            if (w > pool[3]) over++;
        }
        int[] answers = {w, over, town, over == 0 && town <= pool[4] ? 1 : 0, all};
        return answers[what];
    }

    int best(int what) {
        if (out(what, 0, 1)) return BAD;
        int best = 0;
        int most = -1;
        for (int rule = 2000; rule >= 0; rule -= 100) {
            int safe = 0;
            for (int i = 0; i < 8; i++) safe += route(i, rule, 3);
            if (safe > most) {
                most = safe;
                best = rule;
            }
        }
        return what == 0 ? best : most;
    }

    int gauge(int x, int y, int reads) {
        if (!bank.inside(x, y) || out(reads, 0, 9999)) return BAD;
        if (gauges.size() == 8) return FULL;
        gauges.add(new int[] {x, y, reads});
        return gauges.size() - 1;
    }

    int cause(int zone, int lead) {
        if (out(zone, 0, 5) || out(lead, 1, 99)) return BAD;
        if (causes.size() == 8) return FULL;
        causes.add(new int[] {zone, lead});
        return causes.size() - 1;
    }

    int slack(int v) {
        if (out(v, 0, 999)) return BAD;
        int before = slack;
        slack = v;
        return before;
    }

    private Bank by(int cause) {
        Bank b = bank.twin();
        b.zone[causes.get(cause)[0]][0] = causes.get(cause)[1];
        b.trial();
        return b;
    }

    int fits() {
        int bits = 0;
        for (int c = 0; c < causes.size(); c++) {
            Bank b = by(c);
            boolean fit = true;
            for (int[] g : gauges) {
                if (b.earth(g[0], g[1]) && Math.abs(b.head[g[0]][g[1]] - g[2]) > slack) fit = false;
            }
            if (fit) bits += 1 << c;
        }
        return bits;
    }

    int next(int what) {
        if (out(what, 0, 1)) return BAD;
        List<Bank> fitting = new ArrayList<>();
        int bits = fits();
        for (int c = 0; c < causes.size(); c++) if ((bits >> c) % 2 == 1) fitting.add(by(c));
        if (fitting.size() < 2) return NONE;
        int best = NONE;
        int apart = NONE;
        for (int y = 0; y < 6; y++) {
            for (int x = 0; x < 8; x++) {
                if (!bank.earth(x, y)) continue;
                int far = 0;
                for (Bank a : fitting) for (Bank b : fitting) far = Math.max(far, a.head[x][y] - b.head[x][y]);
                if (far > apart) {
                    apart = far;
                    best = 8 * y + x;
                }
            }
        }
        return what == 0 ? best : apart;
    }

    int work(int kind, int x, int y, int more, int price) {
        if (out(kind, 0, 1) || out(price, 0, 999) || !bank.inside(x, y)) return BAD;
        if (kind == 0 && (y != 0 || out(more, 1, 99))) return BAD;
        if (kind == 1 && more != 0) return BAD;
        if (works.size() == 8) return FULL;
        works.add(new Work(kind, x, y, more, price));
        return works.size() - 1;
    }

    int cheapest(int aim, int what) {
        if (out(aim, 0, 9999) || out(what, 0, 1)) return BAD;
        List<int[]> ways = bank.ways();
        int best = NONE;
        int bestPrice = NONE;
        for (int set = 0; set < 1 << works.size(); set++) {
            int price = 0;
            for (int w = 0; w < works.size(); w++) if ((set & 1 << w) != 0) price += works.get(w).price;
            int least = 9999;
            for (int[] way : ways) least = Math.min(least, margin(way, set));
            if (least >= aim && (best == NONE || price < bestPrice)) {
                best = set;
                bestPrice = price;
            }
        }
        return what == 0 ? bestPrice : best;
    }

    int keep(int image) {
        if (out(image, 0, 1)) return BAD;
        images[image] = bank.twin();
        return count(0);
    }

    int back(int image) {
        if (out(image, 0, 1)) return BAD;
        if (images[image] == null) return STATE;
        bank = images[image].twin();
        return count(0);
    }

    int count(int what) {
        if (out(what, 0, 7)) return BAD;
        Bank b = bank;
        int[] answers = {b.count(b::earth), b.count((x, y) -> b.gone[x][y]), b.count(b::wet), gauges.size(), causes.size(), works.size(), b.lake, text.length()};
        return answers[what];
    }

    long trace() {
        return trace;
    }
}
