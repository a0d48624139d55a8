import java.util.ArrayDeque;
import java.util.ArrayList;
import java.util.Arrays;
import java.util.Deque;
import java.util.HashMap;
import java.util.List;
import java.util.Map;
import java.util.TreeMap;
import java.math.BigInteger;
import java.nio.charset.StandardCharsets;
import java.util.regex.Matcher;
import java.util.regex.Pattern;

/** The document once more, by the plainest ways and with all of the Java library: what DarkGate is held against. */
final class Model {
    static final int FAR = 1 << 28;

    static final class Town {
        int streets;
        int lines;
        List<int[]> lanes = new ArrayList<>();      // from, to, takes, muddy, barred
        List<int[]> gates = new ArrayList<>();      // at, holds
        List<int[]> houses = new ArrayList<>();     // at, wants, pays, loads
        List<int[]> strangers = new ArrayList<>();  // at, from
        Deque<int[]> acts = new ArrayDeque<>();     // kind, which, was

        Town copy() {
            Town t = new Town();
            t.streets = streets;
            t.lines = lines;
            for (int[] x : lanes) t.lanes.add(x.clone());
            for (int[] x : gates) t.gates.add(x.clone());
            for (int[] x : houses) t.houses.add(x.clone());
            for (int[] x : strangers) t.strangers.add(x.clone());
            for (int[] x : acts) t.acts.addLast(x.clone());
            return t;
        }
    }

    String tape = "";
    Town town = null;
    Town[] images = new Town[3];
    boolean[] imaged = new boolean[3];
    long[][] rows = new long[4][];
    int[] widths = new int[4];
    int fault = 0;
    int place = -1;

    // ---- the text

    private static final Pattern TOKEN = Pattern.compile("[a-z]+|[0-9]+|;|[^ \n]", Pattern.DOTALL);

    private List<String> tokens;
    private List<Integer> places;
    private int next;

    private static final class Fault extends RuntimeException {
        private static final long serialVersionUID = 1L;
        final int kind;
        final int place;

        Fault(int kind, int place) {
            this.kind = kind;
            this.place = place;
        }
    }

    private String peek() {
        return next < tokens.size() ? tokens.get(next) : "";
    }

    private int here() {
        return next < places.size() ? places.get(next) : tape.length();
    }

    private void eat(String token) {
        if (!peek().equals(token)) throw new Fault(1, here());
        next++;
    }

    private int eatNumber(int low, int high) {
        if (!peek().matches("[0-9]+")) throw new Fault(1, here());
        BigInteger v = new BigInteger(peek());
        if (v.compareTo(BigInteger.valueOf(low)) < 0 || v.compareTo(BigInteger.valueOf(high)) > 0) throw new Fault(2, here());
        next++;
        return v.intValue();
    }

    private static void room(List<int[]> list, int most, int place) {
        if (list.size() >= most) throw new Fault(3, place);
    }

    private Town parse() {
        tokens = new ArrayList<>();
        places = new ArrayList<>();
        next = 0;
        Matcher m = TOKEN.matcher(tape);
        while (m.find()) {
            tokens.add(m.group());
            places.add(m.start());
        }
        Town t = new Town();
        while (next < tokens.size()) {
            parseLine(t);
            eat(";");
            t.lines++;
        }
        return t.lines == 0 ? null : t;
    }

    private void parseLine(Town t) {
        int at = here();
        String word = peek();
        if (t.lines == 0 ? !word.equals("town") : !List.of("lane", "gate", "house", "stranger").contains(word)) throw new Fault(1, at);
        next++;
        if (word.equals("town")) {
            eat("streets");
            t.streets = eatNumber(2, 8);
        } else if (word.equals("lane")) {
            room(t.lanes, 10, at);
            int a = eatNumber(0, t.streets - 1);
            eat("to");
            int where = here();
            int b = eatNumber(0, t.streets - 1);
            if (a == b) throw new Fault(2, where);
            eat("takes");
            int takes = eatNumber(1, 60);
            int muddy = 0;
            int barred = 0;
            if (peek().equals("muddy")) {
                next++;
                muddy = eatNumber(0, 10);
            }
            if (peek().equals("barred")) {
                next++;
                barred = 1;
            }
            t.lanes.add(new int[] {a, b, takes, muddy, barred});
        } else if (word.equals("gate")) {
            room(t.gates, 4, at);
            eat("at");
            int s = eatNumber(0, t.streets - 1);
            eat("holds");
            t.gates.add(new int[] {s, eatNumber(0, 99)});
        } else if (word.equals("house")) {
            room(t.houses, 6, at);
            eat("at");
            int s = eatNumber(0, t.streets - 1);
            eat("wants");
            int wants = eatNumber(0, 999);
            eat("pays");
            int pays = eatNumber(0, 999);
            eat("loads");
            t.houses.add(new int[] {s, wants, pays, eatNumber(0, 99)});
        } else {
            room(t.strangers, 2, at);
            eat("at");
            int s = eatNumber(0, t.streets - 1);
            eat("from");
            t.strangers.add(new int[] {s, eatNumber(0, 999)});
        }
    }

    // ---- the dark

    private static int[][] ways(Town t, int open, int wet) {
        int n = t.streets;
        int[][] d = new int[n][n];
        for (int[] x : d) Arrays.fill(x, FAR);
        for (int i = 0; i < n; i++) d[i][i] = 0;
        for (int l = 0; l < t.lanes.size(); l++) {
            if ((open >> l & 1) == 0) continue;
            int[] x = t.lanes.get(l);
            int w = x[2] + ((wet >> l & 1) == 1 ? 10 : 0);
            d[x[0]][x[1]] = Math.min(d[x[0]][x[1]], w);
            d[x[1]][x[0]] = Math.min(d[x[1]][x[0]], w);
        }
        for (int k = 0; k < n; k++)
            for (int i = 0; i < n; i++)
                for (int j = 0; j < n; j++) d[i][j] = Math.min(d[i][j], d[i][k] + d[k][j]);
        return d;
    }

    private static int open(Town t) {
        int bits = 0;
        for (int l = 0; l < t.lanes.size(); l++) if (t.lanes.get(l)[4] == 0) bits |= 1 << l;
        return bits;
    }

    private static int[] times(Town t, int open, int wet) {
        int[][] d = ways(t, open, wet);
        int[] at = new int[t.streets];
        Arrays.fill(at, FAR);
        for (int[] g : t.gates)
            for (int s = 0; s < t.streets; s++)
                if (d[g[0]][s] < FAR) at[s] = Math.min(at[s], g[1] + d[g[0]][s]);
        return at;
    }

    private static int[] times(Town t) {
        return times(t, open(t), 0);
    }

    private static int[] timesHeld(Town t, int gate, int holds, int open) {
        Town u = t.copy();
        u.gates.get(gate)[1] = holds;
        return times(u, open, 0);
    }

    private static int give(int[] house, int minute) {
        return minute >= FAR ? 0 : Math.max(0, house[2] - Math.abs(house[1] - minute));
    }

    private static int allGlad(Town t, int[] at) {
        int sum = 0;
        for (int[] h : t.houses) sum += give(h, at[h[0]]);
        return sum;
    }

    private static long none(int minute) {
        return minute >= FAR ? -1 : minute;
    }

    private static int byLane(Town t, int[] at, int s) {
        if (at[s] >= FAR) return -1;
        for (int[] g : t.gates) if (g[0] == s && g[1] == at[s]) return -1;
        for (int l = 0; l < t.lanes.size(); l++) {
            int[] x = t.lanes.get(l);
            if (x[4] == 1) continue;
            if (x[0] == s && at[x[1]] < FAR && at[x[1]] + x[2] == at[s]) return l;
            if (x[1] == s && at[x[0]] < FAR && at[x[0]] + x[2] == at[s]) return l;
        }
        throw new IllegalStateException("no way in");
    }

    // ---- strangers

    private static int[] owners(Town t) {
        int[][] d = ways(t, open(t), 0);
        int[] dark = times(t);
        int[] owner = new int[t.streets];
        for (int s = 0; s < t.streets; s++) {
            int first = dark[s];
            owner[s] = dark[s] < FAR ? 0 : -1;
            for (int i = 0; i < t.strangers.size(); i++) {
                int[] x = t.strangers.get(i);
                if (d[x[0]][s] >= FAR) continue;
                int minute = x[1] + d[x[0]][s];
                if (minute < first) {
                    first = minute;
                    owner[s] = i + 1;
                }
            }
        }
        return owner;
    }

    private long lateOf(int street) {
        long most = -1;
        for (int more = 0; more <= 999; more++) {
            Town u = town.copy();
            for (int[] g : u.gates) g[1] += more;
            if (owners(u)[street] == 0) most = more;
        }
        return most;
    }

    // ---- sets of lanes

    private static int[] subsets(int of, int most) {
        List<Integer> found = new ArrayList<>();
        for (int set = 0; set < 1024; set++) if ((set & ~of) == 0 && Integer.bitCount(set) <= most) found.add(set);
        found.sort((x, y) -> Integer.bitCount(x) != Integer.bitCount(y) ? Integer.bitCount(x) - Integer.bitCount(y) : x - y);
        return found.stream().mapToInt(x -> x).toArray();
    }

    private long[] bestTurn(int of, int k) {
        long[] best = {-1, 0};
        for (int set : subsets(of, k)) {
            int glad = allGlad(town, times(town, open(town) ^ set, 0));
            if (glad > best[0]) best = new long[] {glad, set};
        }
        return best;
    }

    private long cutSet(int street, int minute) {
        for (int set : subsets(open(town), 10)) {
            int at = times(town, open(town) & ~set, 0)[street];
            if (minute == 1000 ? at >= FAR : at >= minute) return set;
        }
        return -1;
    }

    private long[] asked(int gate) {
        long[] best = {0, -1};
        for (int n = 0; n <= 99; n++) {
            int glad = allGlad(town, timesHeld(town, gate, n, open(town)));
            if (glad > best[1]) best = new long[] {n, glad};
        }
        return best;
    }

    // ---- who held it

    private List<int[]> fitting(int slot) {
        List<int[]> found = new ArrayList<>();
        for (int g = 0; g < town.gates.size(); g++) {
            for (int n = 0; n <= 99; n++) {
                int[] at = timesHeld(town, g, n, open(town));
                boolean fits = true;
                for (int i = 0; i < rows[slot].length; i += 2) fits &= none(at[(int) rows[slot][i]]) == rows[slot][i + 1];
                if (fits) {
                    int[] pair = new int[2 + town.streets];
                    pair[0] = g;
                    pair[1] = n;
                    System.arraycopy(at, 0, pair, 2, town.streets);
                    found.add(pair);
                }
            }
        }
        return found;
    }

    private long refusal(long slot) {
        if (slot < 0 || slot > 3 || town == null) return -2;
        long[] r = rows[(int) slot];
        if (r == null) return -6;
        if (r.length % 2 == 1) return -2;
        for (int i = 0; i < r.length; i += 2) {
            if (r[i] < 0 || r[i] >= town.streets || r[i + 1] < -1 || r[i + 1] > 999) return -2;
        }
        return 0;
    }

    private static long[] question(List<int[]> pairs, int streets) {
        long[] best = {-1, pairs.size()};
        for (int s = 0; s < streets; s++) {
            Map<Integer, Integer> left = new HashMap<>();
            for (int[] p : pairs) left.merge(p[2 + s], 1, Integer::sum);
            int worst = left.values().stream().mapToInt(x -> x).max().orElse(0);
            if (worst < best[1]) best = new long[] {s, worst};
        }
        return best;
    }

    // ---- places, carts, clerk

    private long[] placed(int k) {
        long full = FAR;
        long set = -1;
        long sum = FAR;
        int size = Math.min(k, town.streets);
        int[][] d = ways(town, open(town), 0);
        for (int m = 0; m < 1 << town.streets; m++) {
            if (Integer.bitCount(m) != size) continue;
            long last = 0;
            long together = 0;
            for (int s = 0; s < town.streets; s++) {
                int soonest = FAR;
                for (int g = 0; g < town.streets; g++) if ((m >> g & 1) == 1) soonest = Math.min(soonest, d[g][s]);
                last = Math.max(last, soonest);
                together += soonest;
            }
            if (last >= FAR) continue;
            if (last < full) {
                full = last;
                set = m;
            }
            sum = Math.min(sum, together);
        }
        return full >= FAR ? new long[] {-1, -1, -1} : new long[] {full, set, sum};
    }

    /** All assignments in lexical order; the first of those with the fewest carts. */
    private int[] assignment(int size) {
        int n = town.houses.size();
        int[] best = null;
        int fewest = 99;
        int[] a = new int[n];
        int all = (int) Math.round(Math.pow(Math.max(n, 1), n));
        for (int code = 0; code < all; code++) {
            int rest = code;
            for (int i = n - 1; i >= 0; i--) {
                a[i] = rest % n;
                rest /= n;
            }
            int[] load = new int[n];
            int used = 0;
            boolean fine = true;
            for (int i = 0; i < n; i++) {
                load[a[i]] += town.houses.get(i)[3];
                used = Math.max(used, a[i] + 1);
            }
            for (int x : load) fine &= x <= size;
            if (fine && used < fewest) {
                fewest = used;
                best = a.clone();
            }
        }
        return best;
    }

    private long[][] game() {
        int g = town.gates.size();
        int open = open(town);
        List<Integer> lanes = new ArrayList<>();
        for (int l = 0; l < town.lanes.size(); l++) if ((open >> l & 1) == 1) lanes.add(l);
        long[][] v = new long[g][lanes.size()];
        for (int i = 0; i < g; i++)
            for (int j = 0; j < lanes.size(); j++)
                v[i][j] = allGlad(town, timesHeld(town, i, town.gates.get(i)[1] + 30, open & ~(1 << lanes.get(j))));
        return v;
    }

    private long restingPairs() {
        long[][] v = game();
        long pairs = 0;
        for (int i = 0; i < v.length; i++) {
            for (int j = 0; j < v[i].length; j++) {
                boolean rests = true;
                for (int k = 0; k < v.length; k++) rests &= v[k][j] >= v[i][j];
                for (int k = 0; k < v[i].length; k++) rests &= v[i][k] <= v[i][j];
                if (rests) pairs++;
            }
        }
        return pairs;
    }

    private long clerksGate() {
        long[][] v = game();
        long found = -1;
        long least = Long.MAX_VALUE;
        for (int i = 0; i < v.length; i++) {
            long most = v[i].length > 0 ? Arrays.stream(v[i]).max().getAsLong()
                    : allGlad(town, timesHeld(town, i, town.gates.get(i)[1] + 30, 0));
            if (most < least) {
                least = most;
                found = i;
            }
        }
        return found;
    }

    // ---- mud

    private TreeMap<Integer, BigInteger> chances(int street) {
        TreeMap<Integer, BigInteger> parts = new TreeMap<>();
        int n = town.lanes.size();
        for (int wet = 0; wet < 1 << n; wet++) {
            BigInteger weight = BigInteger.ONE;
            for (int l = 0; l < n; l++) {
                int muddy = town.lanes.get(l)[3];
                weight = weight.multiply(BigInteger.valueOf((wet >> l & 1) == 1 ? muddy : 10 - muddy));
            }
            if (weight.signum() > 0) parts.merge(times(town, open(town), wet)[street], weight, BigInteger::add);
        }
        return parts;
    }

    private BigInteger[] chanceOf(int street, int minute) {
        BigInteger above = BigInteger.ZERO;
        for (Map.Entry<Integer, BigInteger> e : chances(street).entrySet()) if (e.getKey() <= minute) above = above.add(e.getValue());
        BigInteger below = BigInteger.TEN.pow(town.lanes.size());
        BigInteger common = above.gcd(below);
        return new BigInteger[] {above.divide(common), below.divide(common)};
    }

    private long sureOf(int street, int n) {
        TreeMap<Integer, BigInteger> parts = chances(street);
        BigInteger whole = BigInteger.TEN.pow(town.lanes.size());
        BigInteger above = BigInteger.ZERO;
        for (int minute = 0; minute <= 999; minute++) {
            above = above.add(parts.getOrDefault(minute, BigInteger.ZERO));
            if (above.multiply(BigInteger.valueOf(100)).compareTo(whole.multiply(BigInteger.valueOf(n))) >= 0) return minute;
        }
        return -1;
    }

    private int evening(long seed) {
        BigInteger x = BigInteger.valueOf(seed);
        int wet = 0;
        for (int l = 0; l < town.lanes.size(); l++) {
            x = x.multiply(BigInteger.valueOf(1103515245)).add(BigInteger.valueOf(12345)).mod(BigInteger.ONE.shiftLeft(31));
            if (x.intValue() / 65536 % 10 < town.lanes.get(l)[3]) wet |= 1 << l;
        }
        return wet;
    }

    // ---- the calls

    private static boolean in(long v, long low, long high) {
        return v >= low && v <= high;
    }

    private boolean street(long s) {
        return town != null && in(s, 0, town.streets - 1);
    }

    private boolean gateThere(long g) {
        return town != null && in(g, 0, town.gates.size() - 1);
    }

    private boolean laneThere(long l) {
        return town != null && in(l, 0, town.lanes.size() - 1);
    }

    private boolean houseThere(long h) {
        return town != null && in(h, 0, town.houses.size() - 1);
    }

    private static long item(List<int[]> list, long i, long what, int most) {
        return in(i, 0, list.size() - 1) && in(what, 0, most) ? list.get((int) i)[(int) what] : -2;
    }

    long call(String name, long... a) {
        int x = a.length > 0 ? (int) a[0] : 0;
        int y = a.length > 1 ? (int) a[1] : 0;
        int z = a.length > 2 ? (int) a[2] : 0;
        switch (name) {
            case "feed": return feed(a);
            case "end":
                if (x < 0 || x > tape.length()) return -1;
                tape = tape.substring(0, x);
                return x;
            case "town": return readTown();
            case "fault": return x == 0 ? fault : x == 1 ? place : -1;
            case "count": return counted(x);
            case "image":
                if (!in(x, 0, 2)) return -2;
                images[x] = town == null ? null : town.copy();
                imaged[x] = true;
                return 0;
            case "back":
                if (!in(x, 0, 2)) return -2;
                if (!imaged[x]) return -6;
                town = images[x] == null ? null : images[x].copy();
                return 0;
            case "row":
                if (!in(x, 0, 3) || !in(y, 0, 3) || z > 60) return -2;
                if (z < 0) return -3;
                rows[x] = new long[z];
                widths[x] = y;
                return 0;
            case "write": return write(x, y, a[2]);
            case "paste": return paste(a);
            default: return town == null ? -2 : ofTown(name, x, y, z, a);
        }
    }

    private long feed(long[] a) {
        if (tape.length() + 20 > 1000) return -1;
        byte[] b = new byte[20];
        for (int i = 0; i < 20; i++) b[i] = (byte) (a[i / 4] >> 8 * (3 - i % 4));
        tape += new String(b, StandardCharsets.ISO_8859_1);
        return tape.length();
    }

    private long readTown() {
        try {
            town = parse();
            fault = 0;
            place = -1;
            tape = "";
            return town == null ? 0 : town.lines;
        } catch (Fault f) {
            fault = f.kind;
            place = f.place;
            return -4;
        }
    }

    private long counted(int what) {
        Town t = town == null ? new Town() : town;
        switch (what) {
            case 0: return t.streets;
            case 1: return t.lanes.size();
            case 2: return t.gates.size();
            case 3: return t.houses.size();
            case 4: return t.strangers.size();
            case 5: return t.acts.size();
            case 6: return t.lines;
            case 7: return tape.length();
            case 8: return Arrays.stream(rows).filter(r -> r != null).count();
            default: return -1;
        }
    }

    private long write(int slot, int i, long v) {
        if (!in(slot, 0, 3)) return -2;
        if (rows[slot] == null) return -6;
        if (!in(i, 0, rows[slot].length - 1)) return -7;
        int bits = 64 - (8 << widths[slot]);
        rows[slot][i] = v << bits >> bits;
        return 0;
    }

    private long paste(long[] a) {
        if (!in(a[0], 0, 3) || !in(a[2], 0, 3)) return -2;
        long[] source = rows[(int) a[0]];
        long[] goal = rows[(int) a[2]];
        if (source == null || goal == null) return -6;
        if (widths[(int) a[0]] != widths[(int) a[2]]) return -8;
        if (a[1] < 0 || a[3] < 0 || a[4] < 0 || a[1] + a[4] > source.length || a[3] + a[4] > goal.length) return -7;
        long[] taken = Arrays.copyOfRange(source, (int) a[1], (int) (a[1] + a[4]));
        for (int i = 0; i < taken.length; i++) goal[(int) a[3] + i] = taken[i];
        return 0;
    }

    private long ofTown(String name, int x, int y, int z, long[] a) {
        int open = open(town);
        int[] at = times(town);
        switch (name) {
            case "lane": return item(town.lanes, x, y, 4);
            case "gate": return item(town.gates, x, y, 1);
            case "house": return item(town.houses, x, y, 3);
            case "comes": return street(x) ? none(at[x]) : -2;
            case "from": {
                if (!street(x)) return -2;
                int[][] d = ways(town, open, 0);
                for (int g = 0; g < town.gates.size(); g++) {
                    if (at[x] < FAR && town.gates.get(g)[1] + d[town.gates.get(g)[0]][x] == at[x]) return g;
                }
                return -1;
            }
            case "by": return street(x) ? byLane(town, at, x) : -2;
            case "light": return !in(x, 0, 999) ? -2 : streetsWhere(s -> at[s] > x);
            case "full": return none(Arrays.stream(at).max().getAsInt());
            case "last": {
                int best = -1;
                for (int s = 0; s < town.streets; s++) if (at[s] < FAR && (best < 0 || at[s] > at[best])) best = s;
                return best;
            }
            case "idle": {
                int bits = 0;
                for (int l = 0; l < town.lanes.size(); l++) {
                    if ((open >> l & 1) == 1 && Arrays.equals(times(town, open & ~(1 << l), 0), at)) bits |= 1 << l;
                }
                return bits;
            }
            case "harm": {
                if (!laneThere(x) || (open >> x & 1) == 0) return -2;
                int[] then = times(town, open & ~(1 << x), 0);
                int sum = 0;
                for (int s = 0; s < town.streets; s++) {
                    if (at[s] < FAR) sum += then[s] < FAR ? then[s] - at[s] : 1000 - at[s];
                }
                return sum;
            }
            case "whose": return street(x) ? owners(town)[x] : -2;
            case "owns": {
                if (!in(x, 0, town.strangers.size())) return -2;
                int[] owner = owners(town);
                return streetsWhere(s -> owner[s] == x);
            }
            case "front": {
                int[] owner = owners(town);
                int bits = 0;
                for (int l = 0; l < town.lanes.size(); l++) {
                    int p = owner[town.lanes.get(l)[0]];
                    int q = owner[town.lanes.get(l)[1]];
                    if ((open >> l & 1) == 1 && p >= 0 && q >= 0 && p != q) bits |= 1 << l;
                }
                return bits;
            }
            case "late": return street(x) ? lateOf(x) : -2;
            case "glad": return houseThere(x) ? give(town.houses.get(x), at[town.houses.get(x)[0]]) : -2;
            case "all": return allGlad(town, at);
            case "steps": {
                if (!street(x)) return -2;
                if (at[x] >= FAR) return -1;
                int steps = 0;
                for (int s = x; byLane(town, at, s) >= 0; steps++) {
                    int[] lane = town.lanes.get(byLane(town, at, s));
                    s = lane[0] == s ? lane[1] : lane[0];
                }
                return steps;
            }
            case "have": {
                if (!in(x, 0, 999)) return -2;
                int bits = 0;
                for (int h = 0; h < town.houses.size(); h++) if (at[town.houses.get(h)[0]] <= x) bits |= 1 << h;
                return bits;
            }
            case "gladdest": {
                int best = -1;
                int most = 0;
                for (int h = 0; h < town.houses.size(); h++) {
                    int glad = give(town.houses.get(h), at[town.houses.get(h)[0]]);
                    if (glad > most) {
                        most = glad;
                        best = h;
                    }
                }
                return best;
            }
            default: return ofTownMore(name, x, y, z, a);
        }
    }

    private long ofTownMore(String name, int x, int y, int z, long[] a) {
        int open = open(town);
        switch (name) {
            case "best": return in(x, 0, 3) ? bestTurn(open, x)[0] : -2;
            case "bars": return in(x, 0, 3) ? bestTurn(open, x)[1] : -2;
            case "opens": return in(x, 0, 3) ? bestTurn((1 << town.lanes.size()) - 1 & ~open, x)[0] : -2;
            case "cut": {
                if (!street(x) || !in(y, 0, 1000)) return -2;
                long set = cutSet(x, y);
                return set < 0 ? -1 : Long.bitCount(set);
            }
            case "cuts": return !street(x) || !in(y, 0, 1000) ? -2 : cutSet(x, y);
            case "hold": {
                if (!gateThere(x) || !street(y) || !in(z, 0, 999)) return -2;
                for (int n = 0; n <= 99; n++) if (timesHeld(town, x, n, open)[y] >= z) return n;
                return -1;
            }
            case "asks": return gateThere(x) ? asked(x)[0] : -2;
            case "brings": return gateThere(x) ? asked(x)[1] : -2;
            case "fits": return refusal(x) < 0 ? refusal(x) : fitting(x).size();
            case "held": return refusal(x) < 0 ? refusal(x) : fitting(x).stream().mapToInt(p -> 1 << p[0]).reduce(0, (p, q) -> p | q);
            case "fit":
                if (!in(x, 0, 3) || !gateThere(y)) return -2;
                return refusal(x) < 0 ? refusal(x) : fitting(x).stream().filter(p -> p[0] == y).mapToInt(p -> p[1]).min().orElse(-1);
            case "ask": return refusal(x) < 0 ? refusal(x) : question(fitting(x), town.streets)[0];
            case "leaves": return refusal(x) < 0 ? refusal(x) : question(fitting(x), town.streets)[1];
            case "place": return in(x, 1, 4) ? placed(x)[0] : -2;
            case "places": return in(x, 1, 4) ? placed(x)[1] : -2;
            case "soon": return in(x, 1, 4) ? placed(x)[2] : -2;
            case "carts": {
                if (!in(x, 1, 99)) return -2;
                int[] way = assignment(x);
                return way == null ? -1 : Arrays.stream(way).max().orElse(-1) + 1;
            }
            case "cart": {
                if (!in(x, 1, 99)) return -2;
                int[] way = assignment(x);
                if (way == null || !in(y, 0, Arrays.stream(way).max().orElse(-1))) return -1;
                int bits = 0;
                for (int h = 0; h < way.length; h++) if (way[h] == y) bits |= 1 << h;
                return bits;
            }
            case "wins": return winner();
            case "price": {
                int won = (int) winner();
                if (won < 0) return -1;
                int most = 0;
                for (int h = 0; h < town.houses.size(); h++) if (h != won) most = Math.max(most, town.houses.get(h)[2]);
                return most;
            }
            case "rests": return restingPairs();
            case "clerk": return clerksGate();
            case "chance":
                if (!street(x) || !in(y, 0, 999) || !in(z, 0, 1)) return -2;
                return chanceOf(x, y)[z].longValueExact();
            case "sure": return !street(x) || !in(y, 0, 100) ? -2 : sureOf(x, y);
            case "drawn":
                if (!in(x, 0, 2000000000) || !in(y, 0, 1)) return -2;
                return y == 0 ? evening(x) : none(Arrays.stream(times(town, open, evening(x))).max().getAsInt());
            case "luck": {
                if (!in(x, 0, 2000000000) || !in(y, 1, 20) || !street(z) || !in(a[3], 0, 999)) return -2;
                int lucky = 0;
                for (int i = 0; i < y; i++) if (times(town, open, evening((long) x + i))[z] <= a[3]) lucky++;
                return lucky;
            }
            default: return acts(name, x, y, z);
        }
    }

    private long winner() {
        int best = -1;
        for (int h = 0; h < town.houses.size(); h++) {
            if (best < 0 || town.houses.get(h)[2] > town.houses.get(best)[2]) best = h;
        }
        return best;
    }

    private long acts(String name, int x, int y, int z) {
        switch (name) {
            case "bar": return !laneThere(x) || !in(y, 0, 1) ? -2 : act(town.lanes.get(x), 4, y);
            case "holds": return !gateThere(x) || !in(y, 0, 99) ? -2 : act(town.gates.get(x), 1, y);
            case "undo":
                if (town.acts.isEmpty()) return -5;
                takeBack();
                return town.acts.size();
            case "anew": {
                int were = town.acts.size();
                while (!town.acts.isEmpty()) takeBack();
                return were;
            }
            case "tell": {
                if (!houseThere(x) || !in(y, 1, 2) || !in(z, 0, 999)) return -2;
                if (!town.acts.isEmpty()) return -5;
                int was = town.houses.get(x)[y];
                town.houses.get(x)[y] = z;
                return was;
            }
            default: throw new IllegalArgumentException(name);
        }
    }

    private long act(int[] thing, int field, int v) {
        if (town.acts.size() >= 40) return -5;
        int which = field == 4 ? town.lanes.indexOf(thing) : town.gates.indexOf(thing);
        town.acts.addLast(new int[] {field, which, thing[field]});
        int was = thing[field];
        thing[field] = v;
        return was;
    }

    private void takeBack() {
        int[] act = town.acts.removeLast();
        (act[0] == 4 ? town.lanes : town.gates).get(act[1])[act[0]] = act[2];
    }

    private interface Where {
        boolean is(int street);
    }

    private long streetsWhere(Where where) {
        long bits = 0;
        for (int s = 0; s < town.streets; s++) if (where.is(s)) bits |= 1L << s;
        return bits;
    }
}
