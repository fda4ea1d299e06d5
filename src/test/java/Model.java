import java.util.ArrayList;
import java.util.Arrays;
import java.util.List;
import java.util.TreeSet;

/**
 * The document once more, written another way and without a thought for speed: ways are lists, texts are
 * rewritten, a fault is looked for by trying how a text could go on. It has the face of RefusalMaps.
 */
public final class Model {
    static final int NONE = -1, BAD = -2, STATE = -3, FULL = -4;
    static final long NO = Long.MIN_VALUE;

    static final class Walker {
        int number, kind, v, at, noes;
        Integer goal;
        TreeSet<Integer> chart = new TreeSet<>();
        int[] row = new int[4];

        Walker copy() {
            Walker w = new Walker();
            w.number = number; w.kind = kind; w.v = v; w.at = at; w.noes = noes; w.goal = goal;
            w.chart = new TreeSet<>(chart);
            w.row = row.clone();
            return w;
        }
    }

    static final class World {
        int[] gates = new int[16];
        List<Walker> walkers = new ArrayList<>();
        int hour;
        String nation = "";

        World() { Arrays.fill(gates, 3); }

        World copy() {
            World w = new World();
            w.gates = gates.clone();
            for (Walker one : walkers) w.walkers.add(one.copy());
            w.hour = hour;
            w.nation = nation;
            return w;
        }
    }

    World world = new World();
    List<int[]> seen = new ArrayList<>(), plan = new ArrayList<>(), book = new ArrayList<>();
    World keptWorld;
    List<int[]> keptSeen, keptPlan, keptBook;
    StringBuilder text = new StringBuilder();
    int nations;
    List<Integer> ran = new ArrayList<>();
    int[] sorts = {-1, -1, -1, -1, -1, -1};
    long[][] tapes = new long[6][];

    // ---- nations: reading

    static boolean isNation(String text) {
        String[] clauses = text.split(";", -1);
        if (clauses.length > 10) return false;
        for (String clause : clauses) {
            if (clause.matches("fade [0-9]{1,2}")) continue;
            if (!clause.matches("(open|shut) [0-9]{1,2} .+")) return false;
            if (!isCondition(clause.substring(clause.indexOf(' ', 5) + 1))) return false;
        }
        return true;
    }

    /** A condition is rewritten to the digit that tells how many ( and ! it has within one another. */
    static boolean isCondition(String condition) {
        if (!condition.matches("[pkvcgh<=>0-9()!&|]+")) return false;
        String s = condition.replaceAll("[pkvcgh][<=>][0-9]{1,2}(?![0-9])", "#0");
        if (s.matches(".*(?<!#)[0-9].*") || s.matches(".*[pkvcgh<=>].*")) return false;
        while (true) {
            String next = s;
            for (int n = 0; n <= 4; n++) next = next.replace("!#" + n, n == 4 ? "X" : "#" + (n + 1));
            if (next.equals(s)) {
                for (int n = 0; n <= 4; n++) next = next.replace("(#" + n + ")", n == 4 ? "X" : "#" + (n + 1));
            }
            if (next.equals(s)) {
                for (int n = 0; n <= 4 && next.equals(s); n++) {
                    for (int m = 0; m <= 4 && next.equals(s); m++) {
                        String most = "#" + Math.max(n, m);
                        next = next.replace("#" + n + "&#" + m, most);
                        if (next.equals(s)) next = next.replace("#" + n + "|#" + m, most);
                    }
                }
            }
            if (next.equals(s)) return s.matches("#[0-4]");
            s = next;
        }
    }

    static boolean canBegin(String begun) {
        for (String whole : new String[] {"open 1 p=1", "shut 1 p=1", "fade 1"}) {
            for (int from = 0; from <= whole.length(); from++) {
                String rest = whole.substring(from);
                for (String closed : new String[] {"", ")", "))", ")))", "))))"}) {
                    if (isNation(begun + rest + closed)) return true;
                }
            }
        }
        return false;
    }

    static int fault(String text) {
        int good = 0;
        int bad = text.length() + 1;
        while (good + 1 < bad) {
            int middle = (good + bad) / 2;
            if (canBegin(text.substring(0, middle))) good = middle; else bad = middle;
        }
        return good;
    }

    // ---- nations: what they say

    static int topLevel(String s, char wanted) {
        int open = 0;
        for (int i = s.length() - 1; i >= 0; i--) {
            char c = s.charAt(i);
            if (c == ')') open++;
            if (c == '(') open--;
            if (c == wanted && open == 0) return i;
        }
        return -1;
    }

    static boolean holds(String s, World w, Walker one, int cell) {
        int or = topLevel(s, '|');
        if (or >= 0) return holds(s.substring(0, or), w, one, cell) || holds(s.substring(or + 1), w, one, cell);
        int and = topLevel(s, '&');
        if (and >= 0) return holds(s.substring(0, and), w, one, cell) && holds(s.substring(and + 1), w, one, cell);
        if (s.startsWith("!")) return !holds(s.substring(1), w, one, cell);
        if (s.startsWith("(")) return holds(s.substring(1, s.length() - 1), w, one, cell);
        int number = Integer.parseInt(s.substring(2));
        int fact;
        switch (s.charAt(0)) {
            case 'p': fact = one.number; break;
            case 'k': fact = one.kind; break;
            case 'v': fact = one.v; break;
            case 'c': fact = cell; break;
            case 'g': fact = w.gates[cell]; break;
            default: fact = w.hour % 10;
        }
        return s.charAt(1) == '<' ? fact < number : s.charAt(1) == '=' ? fact == number : fact > number;
    }

    static int fade(World w) {
        int fade = 0;
        for (String clause : w.nation.split(";")) {
            if (clause.startsWith("fade ")) fade = Integer.parseInt(clause.substring(5));
        }
        return fade;
    }

    static int sum(World w, Walker one, int cell) {
        int sum = w.gates[cell];
        for (String clause : w.nation.split(";")) {
            if (clause.isEmpty() || clause.startsWith("fade")) continue;
            String[] parts = clause.split(" ");
            if (holds(parts[2], w, one, cell)) sum += (parts[0].equals("open") ? 1 : -1) * Integer.parseInt(parts[1]);
        }
        return sum;
    }

    static int welcome(World w, Walker one, int cell) {
        int sum = sum(w, one, cell);
        int half = sum < 0 ? -(-sum / 2) : sum / 2;
        int child = cell < one.v ? 9 : sum;
        switch (one.kind) {
            case 0: return sum;
            case 1: return sum + one.v;
            case 2: return half + 1;
            case 3: return child;
            case 4: {
                boolean crowd = false;
                for (Walker other : w.walkers) crowd |= other != one && other.at == cell;
                return sum + one.v - (crowd ? 8 : 0);
            }
            case 5: return half + 1 + one.chart.size() / 2;
            default: return child + one.row[cell % 4] - 4;
        }
    }

    static TreeSet<Integer> refusing(World w, Walker one) {
        TreeSet<Integer> cells = new TreeSet<>();
        for (int c = 0; c < 16; c++) if (welcome(w, one, c) <= 0) cells.add(c);
        return cells;
    }

    // ---- ways

    static boolean isNext(int a, int b) {
        return Math.abs(a / 4 - b / 4) + Math.abs(a % 4 - b % 4) == 1;
    }

    /** The shortest way, or null: ways are tried in their order as rows, the shorter ones ahead. */
    static List<Integer> way(int from, int to, TreeSet<Integer> set) {
        List<List<Integer>> ways = new ArrayList<>();
        ways.add(new ArrayList<>());
        TreeSet<Integer> met = new TreeSet<>();
        met.add(from);
        if (from == to) return ways.get(0);
        for (int i = 0; i < ways.size(); i++) {
            List<Integer> way = ways.get(i);
            int last = way.isEmpty() ? from : way.get(way.size() - 1);
            for (int c = 0; c < 16; c++) {
                if (!isNext(last, c) || set.contains(c) || !met.add(c)) continue;
                List<Integer> longer = new ArrayList<>(way);
                longer.add(c);
                if (c == to) return longer;
                ways.add(longer);
            }
        }
        return null;
    }

    static void hour(World w, boolean asked) {
        for (Walker one : w.walkers) {
            if (one.goal == null || one.goal == one.at) continue;
            List<Integer> way = way(one.at, one.goal, one.chart);
            if (way == null) continue;
            int cell = way.get(0);
            if (welcome(w, one, cell) <= 0) {
                one.chart.add(cell);
                one.noes++;
                if (!asked) one.noes = Math.min(one.noes, 9999);
            } else {
                one.at = cell;
            }
        }
        int fade = fade(w);
        if (fade > 0 && w.hour % fade == 0) for (Walker one : w.walkers) one.chart.pollFirst();
        w.hour++;
    }

    World after(int n) {
        World w = world.copy();
        for (int i = 0; i < n; i++) hour(w, true);
        return w;
    }

    static int there(World from, int number) {
        World w = from.copy();
        for (int n = 0; n <= 40; n++) {
            Walker one = w.walkers.get(number);
            if (one.goal != null && one.goal == one.at) return n;
            hour(w, true);
        }
        return -5;
    }

    static int bits(Iterable<Integer> set) {
        int bits = 0;
        for (int c : set) bits += 1 << c;
        return bits;
    }

    int lent(Walker one) {
        if (one.goal == null) return -5;
        TreeSet<Integer> refusing = refusing(world, one);
        for (int size = 0; size < 6; size++) {
            for (int set = 0; set < 64; set++) {
                if (Integer.bitCount(set) != size || (set & 1 << one.number) != 0 || set >= 1 << world.walkers.size()) continue;
                TreeSet<Integer> chart = new TreeSet<>(one.chart);
                for (Walker other : world.walkers) if ((set & 1 << other.number) != 0) chart.addAll(other.chart);
                List<Integer> way = way(one.at, one.goal, chart);
                if (way == null) continue;
                boolean free = true;
                for (int c : way) free &= !refusing.contains(c);
                if (free) return set;
            }
        }
        return -5;
    }

    int key(Walker one) {
        int asIs = there(world, one.number);
        int[] by = new int[16];
        int least = Integer.MAX_VALUE;
        for (int c = 0; c < 16; c++) {
            World w = world.copy();
            w.gates[c] = 9;
            by[c] = there(w, one.number);
            if (by[c] == -5) by[c] = 1000;
            least = Math.min(least, by[c]);
        }
        if (least >= (asIs == -5 ? 1000 : asIs)) return -5;
        for (int c = 0; c < 16; c++) if (by[c] == least) return c;
        return -5;
    }

    boolean seenIsSo(World from) {
        for (int[] row : seen) {
            World w = from.copy();
            for (int i = 0; i < row[1]; i++) hour(w, true);
            if (w.walkers.get(row[0]).at != row[2]) return false;
        }
        return true;
    }

    int from(Walker one) {
        int bits = 0;
        for (int c = 0; c < 16; c++) {
            World w = world.copy();
            w.walkers.get(one.number).at = c;
            if (seenIsSo(w)) bits |= 1 << c;
        }
        return bits;
    }

    // ---- the face

    boolean no(int number) { return number < 0 || number >= world.walkers.size(); }
    static boolean noCell(int cell) { return cell < 0 || cell > 15; }
    static TreeSet<Integer> set(int bits) {
        TreeSet<Integer> set = new TreeSet<>();
        for (int c = 0; c < 16; c++) if ((bits & 1 << c) != 0) set.add(c);
        return set;
    }

    public int traveller(int kind, int v, int cell) {
        if (kind < 0 || kind > 6 || noCell(cell)) return NONE;
        if (v < 0 || v > 9) return BAD;
        if (world.walkers.size() == 6) return FULL;
        Walker one = new Walker();
        one.number = world.walkers.size();
        one.kind = kind;
        one.v = v;
        one.at = cell;
        world.walkers.add(one);
        return one.number;
    }

    public int of(int traveller, int what) {
        if (no(traveller)) return NONE;
        Walker one = world.walkers.get(traveller);
        switch (what) {
            case 0: return one.kind;
            case 1: return one.v;
            case 2: return one.at;
            case 3: return one.goal == null ? -5 : one.goal;
            case 4: return bits(one.chart);
            case 5: return one.noes;
            case 6: return there(world, traveller);
            case 7: return bits(refusing(world, one));
            case 8: return lent(one);
            case 9: return key(one);
            case 10: return from(one);
            default: return NONE;
        }
    }

    public int welcome(int traveller, int cell) {
        return no(traveller) || noCell(cell) ? -10001 : welcome(world, world.walkers.get(traveller), cell);
    }

    public int goal(int traveller, int cell) {
        if (no(traveller) || cell < -1 || cell > 15) return NONE;
        Integer had = world.walkers.get(traveller).goal;
        world.walkers.get(traveller).goal = cell == -1 ? null : Integer.valueOf(cell);
        return had == null ? -5 : had;
    }

    public int put(int traveller, int cell) {
        if (no(traveller) || noCell(cell)) return NONE;
        int was = world.walkers.get(traveller).at;
        world.walkers.get(traveller).at = cell;
        return was;
    }

    public int chart(int traveller, int cells) {
        if (no(traveller)) return NONE;
        if (cells < 0 || cells > 65535) return BAD;
        int was = bits(world.walkers.get(traveller).chart);
        world.walkers.get(traveller).chart = set(cells);
        return was;
    }

    public int gate(int cell, int n) {
        if (noCell(cell)) return NONE;
        if (n < 0 || n > 9) return BAD;
        int was = world.gates[cell];
        world.gates[cell] = n;
        return was;
    }

    public int row(int traveller, int part, int n) {
        if (no(traveller) || part < 0 || part > 3) return NONE;
        if (n < 0 || n > 9) return BAD;
        if (world.walkers.get(traveller).kind != 6) return STATE;
        int was = world.walkers.get(traveller).row[part];
        world.walkers.get(traveller).row[part] = n;
        return was;
    }

    public int feed(int sign) {
        if (sign < 0 || sign > 127) return BAD;
        if (text.length() == 100) return FULL;
        return text.append((char) sign).length();
    }

    public int nation() {
        if (nations == 6) return FULL;
        String read = text.toString();
        text.setLength(0);
        if (!isNation(read)) return -10 - fault(read);
        world.nation = read;
        return nations++;
    }

    public int told(int what) {
        if (what >= 10 && what <= 25) return world.gates[what - 10];
        int at = 0;
        int noes = 0;
        for (Walker one : world.walkers) {
            if (one.goal != null && one.goal == one.at) at |= 1 << one.number;
            noes += one.noes;
        }
        return what == 0 ? world.hour : what == 1 ? fade(world) : what == 2 ? at : what == 3 ? noes : NONE;
    }

    public int pass(int n) {
        if (n < 0 || n > 40) return BAD;
        if (world.hour + n > 9999) return STATE;
        for (int i = 0; i < n; i++) hour(world, false);
        return world.hour;
    }

    public int on(int n, int what) {
        for (Walker one : world.walkers) {
            if (what % 10 != one.number || what < 10 || what > 35) continue;
            if (n < 0 || n > 40) return BAD;
            Walker then = after(n).walkers.get(one.number);
            return what < 20 ? then.at : what < 30 ? bits(then.chart) : then.noes;
        }
        return NONE;
    }

    public int way(int traveller, int cell, int k) {
        if (no(traveller) || noCell(cell) || k < -1 || k > 14) return NONE;
        Walker one = world.walkers.get(traveller);
        List<Integer> way = way(one.at, cell, one.chart);
        if (way == null) return -5;
        if (k == -1) return way.size();
        return k < way.size() ? way.get(k) : -5;
    }

    public int straight(int traveller, int cell) {
        if (no(traveller) || noCell(cell)) return NONE;
        Walker one = world.walkers.get(traveller);
        List<Integer> way = way(one.at, cell, refusing(world, one));
        return way == null ? -5 : way.size();
    }

    public int see(int traveller, int n, int cell) {
        if (traveller == -1) { seen.clear(); return 0; }
        if (no(traveller) || noCell(cell)) return NONE;
        if (n < 0 || n > 12) return BAD;
        if (seen.size() == 5) return FULL;
        seen.add(new int[] {traveller, n, cell});
        return seen.size();
    }

    public int can(int traveller, int what) {
        if (no(traveller) || what < 0 || what > 1) return NONE;
        List<Integer> values = new ArrayList<>();
        for (int v = 0; v < 10; v++) {
            World w = world.copy();
            w.walkers.get(traveller).v = v;
            if (seenIsSo(w)) values.add(v);
        }
        return what == 0 ? values.size() : values.isEmpty() ? -5 : values.get(0);
    }

    static long lowest(int above, int below, int part) {
        for (int d = below; d > 1; d--) {
            if (above % d == 0 && below % d == 0) return (part == 0 ? above : below) / d;
        }
        return part == 0 ? above : below;
    }

    public long odds(int traveller, int part) {
        if (no(traveller) || part < 0 || part > 1) return NO;
        int ways = 0;
        for (int c = 0; c < 16; c++) if (straight(traveller, c) >= 0) ways++;
        return lowest(ways, 16, part);
    }

    public long mean(int part) {
        if (part < 0 || part > 1 || world.walkers.isEmpty()) return NO;
        int drawn = 0;
        for (Walker one : world.walkers) drawn += one.chart.size();
        return lowest(drawn, world.walkers.size(), part);
    }

    public int plan(int what, int n) {
        if (what == -1) { plan.clear(); return 0; }
        if (what < 0 || what > 3) return NONE;
        if ((what == 1 || what == 3) && no(n)) return NONE;
        if (what == 2 && (n < 0 || no(n / 10) || no(n % 10))) return NONE;
        if (plan.size() == 8) return FULL;
        plan.add(new int[] {what, n});
        return plan.size();
    }

    public int ends(int what) {
        if (what != 0 && what != 1) return NONE;
        World w = world.copy();
        for (int[] row : plan) {
            if (row[0] == 0) hour(w, true);
            if (row[0] == 1) w.walkers.get(row[1]).chart.clear();
            if (row[0] == 2) w.walkers.get(row[1] / 10).chart.addAll(new TreeSet<>(w.walkers.get(row[1] % 10).chart));
            if (row[0] == 3) w.walkers.get(row[1]).goal = null;
        }
        int at = 0;
        int noes = 0;
        for (Walker one : w.walkers) {
            if (one.goal != null && one.goal == one.at) at++;
            noes += one.noes;
        }
        return what == 0 ? at : noes;
    }

    public int book(int traveller, int cells) {
        if (traveller == -1) { book.clear(); return 0; }
        if (no(traveller)) return NONE;
        if (cells < 0 || cells > 65535) return BAD;
        if (book.size() == 8) return FULL;
        book.add(new int[] {traveller, cells});
        return book.size();
    }

    public int looked() {
        for (int[] row : book) if (bits(world.walkers.get(row[0]).chart) != row[1]) return book.indexOf(row);
        return -5;
    }

    public int judge(int tape, int i) {
        if (tape < 0 || tape > 5) return NONE;
        if (sorts[tape] > 0) return -12;
        int looked = 0;
        while (looked < 16) {
            long place = (long) i + looked;
            if (sorts[tape] < 0 || i < 0 || place >= tapes[tape].length) return 100 + looked;
            if (tapes[tape][(int) place] != world.gates[looked]) return looked;
            looked++;
        }
        return -5;
    }

    static List<int[]> copy(List<int[]> rows) { return new ArrayList<>(rows); }

    public int image() {
        keptWorld = world.copy();
        keptSeen = copy(seen);
        keptPlan = copy(plan);
        keptBook = copy(book);
        return world.walkers.size();
    }

    public int undo() {
        if (keptWorld == null) return STATE;
        world = keptWorld.copy();
        seen = copy(keptSeen);
        plan = copy(keptPlan);
        book = copy(keptBook);
        return world.walkers.size();
    }

    // ---- acts: here the kinds are classes, and Java itself finds the bodies

    static class Traveller {
        final int i;
        final int v;
        final List<Integer> ran;
        Traveller(int i, int v, List<Integer> ran) { this.i = i; this.v = v; this.ran = ran; }
        int knocks(int x) { ran.add(10); return x + i; }
        int draws(int x) { ran.add(11); return knocks(x) - v; }
        int tells(int x) { ran.add(12); return draws(x) * 2; }
    }
    static class Beauty extends Traveller {
        Beauty(int i, int v, List<Integer> ran) { super(i, v, ran); }
        int draws(int x) { ran.add(20); return super.draws(x) ^ 6; }
    }
    static class Sailor extends Traveller {
        Sailor(int i, int v, List<Integer> ran) { super(i, v, ran); }
        int knocks(int x) { ran.add(30); return super.knocks(x * 3); }
    }
    static class Child extends Traveller {
        Child(int i, int v, List<Integer> ran) { super(i, v, ran); }
        int tells(int x) { ran.add(40); return super.tells(x) + draws(1); }
    }
    static class Soldier extends Beauty {
        Soldier(int i, int v, List<Integer> ran) { super(i, v, ran); }
        int knocks(int x) { ran.add(50); return -super.knocks(x); }
        int draws(int x) { ran.add(51); return super.draws(x + 1); }
    }
    static class Old extends Sailor {
        Old(int i, int v, List<Integer> ran) { super(i, v, ran); }
        int tells(int x) { ran.add(60); return super.tells(x - i); }
    }
    static class Told extends Child {
        Told(int i, int v, List<Integer> ran) { super(i, v, ran); }
        int draws(int x) { ran.add(70); return super.draws(x) + super.knocks(2); }
        int knocks(int x) { ran.add(71); return super.knocks(x) ^ v; }
    }

    Traveller acting(Walker w) {
        switch (w.kind) {
            case 0: return new Traveller(w.number, w.v, ran);
            case 1: return new Beauty(w.number, w.v, ran);
            case 2: return new Sailor(w.number, w.v, ran);
            case 3: return new Child(w.number, w.v, ran);
            case 4: return new Soldier(w.number, w.v, ran);
            case 5: return new Old(w.number, w.v, ran);
            default: return new Told(w.number, w.v, ran);
        }
    }

    public int act(int traveller, int act, int x) {
        ran.clear();
        if (no(traveller) || act < 0 || act > 2) return 0;
        Traveller one = acting(world.walkers.get(traveller));
        return act == 0 ? one.knocks(x) : act == 1 ? one.draws(x) : one.tells(x);
    }

    public int trace(int i) {
        return i < 0 || i >= ran.size() || i >= 20 ? NONE : ran.get(i);
    }

    public int taken(int traveller, int k) {
        if (k < 0 || k > 6) return BAD;
        if (no(traveller)) return -11;
        Class<?>[] kinds = {Traveller.class, Beauty.class, Sailor.class, Child.class, Soldier.class, Old.class, Told.class};
        Walker one = world.walkers.get(traveller);
        return kinds[k].isInstance(acting(one)) ? one.kind : -12;
    }

    public int count(int what) {
        int[] counts = {world.walkers.size(), nations, seen.size(), plan.size(), book.size(), text.length(), ran.size()};
        return what < 0 || what > 6 ? BAD : counts[what];
    }

    public int tape(int tape, int sort, int n) {
        if (tape < 0 || tape > 5) return NONE;
        if (sort < -1 || sort > 4) return BAD;
        if (sort >= 0 && n > 60) return BAD;
        if (sort >= 0 && n < 0) return -14;
        sorts[tape] = sort;
        tapes[tape] = sort < 0 ? null : new long[n];
        return 1;
    }

    public int item(int tape, int i, long v) {
        if (tape < 0 || tape > 5) return NONE;
        if (sorts[tape] < 0) return -11;
        if (i < 0 || i >= tapes[tape].length) return -13;
        int unused = new int[] {56, 48, 32, 0, 0}[sorts[tape]];
        tapes[tape][i] = sorts[tape] == 4 ? (v == 0 ? 0 : 1) : v << unused >> unused;
        return 1;
    }

    public long read(int tape, int i) {
        if (tape < 0 || tape > 5 || sorts[tape] < 0 || i < 0 || i >= tapes[tape].length) return NO;
        return tapes[tape][i];
    }

    public int shift(int tape, int i, int other, int j, int n) {
        if (tape < 0 || tape > 5 || other < 0 || other > 5) return NONE;
        if (sorts[tape] < 0 || sorts[other] < 0) return -11;
        if (sorts[tape] != sorts[other]) return -12;
        if (n < 0 || i < 0 || j < 0 || (long) i + n > tapes[tape].length || (long) j + n > tapes[other].length) return -13;
        long[] before = tapes[tape].clone();
        for (int a = 0; a < n; a++) tapes[other][j + a] = before[i + a];
        return n;
    }
}
