import java.util.ArrayList;
import java.util.Collections;
import java.util.HashMap;
import java.util.LinkedHashSet;
import java.util.List;
import java.util.Map;
import java.util.Set;
import java.util.TreeMap;
import java.util.TreeSet;

/** The document told a second time, as plainly as may be and without thought of speed: FuzzTests compares with it. */
public final class Model {
    static final int BAD = -1, NOT = -2, FULL = -3, STATE = -5, VOID = -2000000000;

    static final class Body {
        int street, strength, kind = 0, knows = -1;
        boolean fallen = false;
        Map<Integer, Integer> shelf = new TreeMap<>();
        Map<Integer, int[]> kept = new TreeMap<>();    // name -> version, for whom
        Map<Integer, int[]> pieces = new TreeMap<>();  // name -> pieces, to whom
        int counts() { return kind == 1 || kind == 6 ? 2 * strength : strength; }
        boolean up() { return !fallen && kind != 4; }
        void receive(int name, int v) {
            shelf.merge(name, v, Math::max);
        }
        boolean wouldTake(int name, int v) {  // asked ahead of WRITTEN and MENDED; WOKEN and HALF do not ask
            if (kind == 6 && shelf.size() >= 8 && !shelf.containsKey(name)) return false;
            return v > shelf.getOrDefault(name, 0);
        }
    }

    final class Board {
        final TreeMap<Integer, Integer> counts;
        final int z;
        final String text;
        int copies = 2, streets = 1, way = 0;
        final int[] at = new int[1000];
        int seats = 0;

        Board(TreeMap<Integer, Integer> counts, int z, String text) {
            this.counts = counts;
            this.z = z;
            this.text = text;
            for (String part : text.split(";")) {
                String e = part.substring(2);
                if (part.charAt(0) == 'c') copies = Math.max(1, Math.min(4, value(e)));
                if (part.charAt(0) == 's') streets = Math.max(1, Math.min(4, value(e)));
                if (part.charAt(0) == 'p') way = e.charAt(0) - '0';
            }
            java.util.Arrays.fill(at, -1);
            for (int k : counts.keySet()) {
                for (int j = 0; j < 4 * counts.get(k); j++) {
                    int p = (((k * 7919 + j * 104729 + z) * 1103515245 + 12345) >>> 8) % 1000;
                    while (at[p] >= 0) p = (p + 1) % 1000;
                    at[p] = k;
                    seats++;
                }
            }
        }

        int value(String e) {
            int depth = 0;
            for (String ops : new String[] {"+-", "*/%"}) {
                for (int i = e.length() - 1; i >= 0; i--) {
                    char c = e.charAt(i);
                    if (c == ')') depth++;
                    if (c == '(') depth--;
                    if (depth > 0 || ops.indexOf(c) < 0) continue;
                    int l = value(e.substring(0, i)), r = value(e.substring(i + 1));
                    switch (c) {
                        case '+': return l + r;
                        case '-': return l - r;
                        case '*': return l * r;
                        case '/': return r == 0 ? 0 : l / r;
                        default: return r == 0 ? 0 : l % r;
                    }
                }
            }
            if (e.charAt(0) == '(') return value(e.substring(1, e.length() - 1));
            if (e.equals("n")) return counts.size();
            if (e.equals("t")) return counts.values().stream().mapToInt(v -> v).sum();
            if (e.equals("x")) return Collections.max(counts.values());
            if (e.equals("u")) return (int) counts.keySet().stream().map(k -> bodies.get(k).street).distinct().count();
            return Integer.parseInt(e);
        }

        List<Integer> picks(int m) {
            Set<Integer> got = new LinkedHashSet<>();
            if (way == 0) {
                for (int i = 0; i < 1000; i++) if (at[(m + i) % 1000] >= 0) got.add(at[(m + i) % 1000]);
            } else if (way == 1) {
                List<Integer> all = new ArrayList<>(counts.keySet());
                all.sort((a, b) -> score(b, m) != score(a, m) ? Integer.compare(score(b, m), score(a, m)) : a - b);
                got.addAll(all);
            } else {
                for (int start = m; got.size() < counts.size(); start = (start + 333) % 1000) {
                    for (int i = 0; i < 1000; i++) {
                        int k = at[(start + i) % 1000];
                        if (k >= 0 && got.add(k)) break;
                    }
                }
            }
            return new ArrayList<>(got);
        }

        int score(int k, int m) {
            return (((m * 7919 + k * 104729 + z) * 1103515245 + 12345) >>> 8) % 1000 * counts.get(k);
        }

        List<Integer> of(int name) {
            List<Integer> left = picks(number(name, z)), got = new ArrayList<>();
            for (int k : new ArrayList<>(left)) {
                if (got.size() >= copies || streetsOf(got).size() >= streets) break;
                if (streetsOf(got).contains(bodies.get(k).street)) continue;
                got.add(k);
                left.remove((Integer) k);
            }
            while (got.size() < copies && !left.isEmpty()) got.add(left.remove(0));
            return got;
        }

        Set<Integer> streetsOf(List<Integer> some) {
            Set<Integer> all = new TreeSet<>();
            for (int k : some) all.add(bodies.get(k).street);
            return all;
        }

        int shareOf(int keeper) {
            int n = 0;
            for (int name = 0; name < words.size(); name++) if (of(name).get(0) == keeper) n++;
            return n;
        }

        int oddsOf(int keeper) {
            int n = 0;
            for (int m = 0; m < 1000; m++) if (picks(m).get(0) == keeper) n++;
            return n;
        }

        int movesTo(Board other, boolean needless) {
            int n = 0;
            for (int name = 0; name < words.size(); name++) {
                List<Integer> mine = of(name);
                boolean all = true;
                for (int k : mine) all &= same(other, k);
                for (int k : other.of(name)) if (!mine.contains(k) && (!needless || all && same(other, k))) n++;
            }
            return n;
        }

        boolean same(Board other, int k) {
            return counts.containsKey(k) && other.counts.containsKey(k) && counts.get(k).equals(other.counts.get(k));
        }
    }

    final StringBuilder tape = new StringBuilder();
    final List<String> words = new ArrayList<>();
    final List<Body> bodies = new ArrayList<>();
    final List<Board> boards = new ArrayList<>();
    final Map<Integer, Integer> written = new HashMap<>();
    int writings = 0;
    final List<Integer> told = new ArrayList<>();
    List<Integer> found = new ArrayList<>();
    final List<Integer> turns = new ArrayList<>();
    int greatest = BAD;
    List<Integer> ran = new ArrayList<>();
    final Object[] host = new Object[6];  // null, a Body, or a Line

    static final class Line {
        final int sort;
        final long[] v;
        Line(int sort, int n) { this.sort = sort; v = new long[n]; }
    }

    private boolean isName(int n) { return n >= 0 && n < words.size(); }
    private boolean isKeeper(int k) { return k >= 0 && k < bodies.size(); }
    private boolean isTable(int t) { return t >= 0 && t < boards.size(); }

    public int feed(int n, int v) {
        if (n < 1 || n > 4) return BAD;
        if (tape.length() + n > 80) return FULL;
        for (int i = 0; i < n; i++) tape.append((char) (v >> 8 * i & 255));
        return tape.length();
    }
    public int name() {
        String w = tape.toString();
        if (w.isEmpty() || w.length() > 6) return BAD;
        if (!words.contains(w)) {
            if (words.size() == 40) return FULL;
            words.add(w);
        }
        tape.setLength(0);
        return words.indexOf(w);
    }
    public int number(int name, int z) {
        if (!isName(name)) return BAD;
        int v = z;
        for (char b : words.get(name).toCharArray()) v = (v ^ b) * 16777619;
        return (v >>> 7) % 1000;
    }
    public int keeper(int street, int strength) {
        if (street < 0 || street > 5 || strength < 1 || strength > 8) return BAD;
        if (bodies.size() == 12) return FULL;
        Body b = new Body();
        b.street = street;
        b.strength = strength;
        bodies.add(b);
        return bodies.size() - 1;
    }
    public int become(int keeper, int kind) {
        if (!isKeeper(keeper) || kind < 0 || kind > 6) return BAD;
        Body b = bodies.get(keeper);
        int was = b.kind;
        b.kind = kind;
        if (was == 4 && kind != 4) {
            for (Body k : bodies) {
                k.kept.forEach((name, what) -> { if (what[1] == keeper) b.receive(name, what[0]); });
                k.kept.values().removeIf(what -> what[1] == keeper);
            }
        }
        return was;
    }
    public int strength(int keeper, int v) {
        if (!isKeeper(keeper) || v < 1 || v > 8) return BAD;
        int was = bodies.get(keeper).strength;
        bodies.get(keeper).strength = v;
        return was;
    }
    public int ofKeeper(int keeper, int what) {
        if (!isKeeper(keeper) || what < 0 || what > 7) return VOID;
        Body b = bodies.get(keeper);
        return new int[] {b.kind, b.street, b.strength, b.counts(), b.knows, b.shelf.size(), b.kept.size(), b.fallen ? 1 : 0}[what];
    }

    /** State by state over the text: no tree is built. */
    static int fault(String text) {
        String came = "";
        char state = 'L';  // L letter, B blank, D digit of p, O operand, N number, A behind an operand, E behind p's digit
        boolean p = false;
        int open = 0, digits = 0;
        for (int i = 0; i < text.length(); i++) {
            char c = text.charAt(i);
            boolean digit = c >= '0' && c <= '9';
            switch (state) {
                case 'L':
                    if ("csp".indexOf(c) < 0 || came.indexOf(c) >= 0) return i;
                    came += c;
                    p = c == 'p';
                    state = 'B';
                    continue;
                case 'B':
                    if (c != ' ') return i;
                    state = p ? 'D' : 'O';
                    continue;
                case 'D':
                    if (c < '0' || c > '2') return i;
                    state = 'E';
                    continue;
                case 'O':
                    if (digit) { digits = 1; state = 'N'; }
                    else if ("nutx".indexOf(c) >= 0) state = 'A';
                    else if (c == '(' && open < 4) open++;
                    else return i;
                    continue;
                case 'N':
                    if (digit && digits < 3) { digits++; continue; }
                    break;
                default:
                    break;
            }
            if (state != 'E' && "+-*/%".indexOf(c) >= 0) state = 'O';
            else if (state != 'E' && c == ')' && open > 0) { open--; state = 'A'; }
            else if (c == ';' && open == 0 && came.length() < 3) state = 'L';
            else return i;
        }
        return open == 0 && "NAE".indexOf(state) >= 0 ? -1 : text.length();
    }

    public int table(int keepers, int z) {
        if (keepers == 0 || (keepers & -1 << bodies.size()) != 0) return BAD;
        if (boards.size() == 10) return FULL;
        String text = tape.toString();
        tape.setLength(0);
        int fault = fault(text);
        if (fault >= 0) return -100 - fault;
        TreeMap<Integer, Integer> counts = new TreeMap<>();
        for (int k = 0; k < 12; k++) if ((keepers >> k & 1) == 1) counts.put(k, bodies.get(k).counts());
        boards.add(new Board(counts, z, text));
        return boards.size() - 1;
    }
    public int ofTable(int table, int what) {
        if (!isTable(table) || what < 0 || what > 5) return BAD;
        Board b = boards.get(table);
        if (what == 0) return b.counts.keySet().stream().mapToInt(k -> 1 << k).sum();
        if (what < 5) return new int[] {0, b.seats, b.copies, b.streets, b.way}[what];
        int most = 0, least = 1000;
        for (int k : b.counts.keySet()) {
            most = Math.max(most, b.oddsOf(k));
            least = Math.min(least, b.oddsOf(k));
        }
        return most - least;
    }
    public int seat(int table, int place) {
        if (!isTable(table) || place < 0 || place > 999) return BAD;
        int k = boards.get(table).at[place];
        return k < 0 ? NOT : k;
    }
    public int picked(int table, int number, int i) {
        if (!isTable(table) || number < 0 || number > 999) return BAD;
        List<Integer> all = boards.get(table).picks(number);
        return i < 0 || i >= all.size() ? BAD : all.get(i);
    }
    public int keeperOf(int table, int name, int i) {
        if (!isTable(table) || !isName(name)) return BAD;
        List<Integer> all = boards.get(table).of(name);
        if (i == -1) return all.size();
        return i < 0 || i >= all.size() ? BAD : all.get(i);
    }
    public int tooFew(int table) {
        if (!isTable(table)) return BAD;
        Board b = boards.get(table);
        int n = 0;
        for (int name = 0; name < words.size(); name++) if (b.streetsOf(b.of(name)).size() < b.streets) n++;
        return n;
    }
    public int share(int table, int keeper, int what) {
        if (!isTable(table) || !isKeeper(keeper) || what < 0 || what > 1) return BAD;
        return what == 0 ? boards.get(table).shareOf(keeper) : boards.get(table).oddsOf(keeper);
    }
    public int moves(int table, int other, int what) {
        if (!isTable(table) || !isTable(other) || what < 0 || what > 1) return BAD;
        return boards.get(table).movesTo(boards.get(other), what == 1);
    }
    public int knows(int keeper, int table) {
        if (!isKeeper(keeper) || table != -1 && !isTable(table)) return VOID;
        int was = bodies.get(keeper).knows;
        bodies.get(keeper).knows = table;
        return was;
    }
    public int write(int keeper, int name) {
        if (!isKeeper(keeper) || !isName(name)) return BAD;
        Body by = bodies.get(keeper);
        if (by.knows < 0 || !by.up()) return STATE;
        writings++;
        int v = written.merge(name, 1, Integer::sum), came = 0;
        Board b = boards.get(by.knows);
        List<Integer> of = b.of(name);
        for (int k : of) {
            Body to = bodies.get(k);
            if (to.fallen) continue;
            if (to.kind != 4) {
                if (!to.wouldTake(name, v)) continue;
                to.receive(name, v);
                came++;
                continue;
            }
            for (int h : b.picks(number(name, b.z))) {
                int[] has = bodies.get(h).kept.get(name);
                if (of.contains(h) || !bodies.get(h).up() || has != null && has[1] != k) continue;
                bodies.get(h).kept.put(name, new int[] {v, k});
                came++;
                break;
            }
        }
        return came;
    }
    public int read(int keeper, int name) {
        if (!isKeeper(keeper) || !isName(name)) return BAD;
        Body by = bodies.get(keeper);
        if (by.knows < 0 || !by.up()) return STATE;
        int most = 0;
        for (int k : boards.get(by.knows).of(name)) {
            if (bodies.get(k).up()) most = Math.max(most, bodies.get(k).shelf.getOrDefault(name, 0));
        }
        return most;
    }
    public int onShelf(int keeper, int name, int what) {
        if (!isKeeper(keeper) || !isName(name) || what < 0 || what > 3) return BAD;
        Body b = bodies.get(keeper);
        if (what == 0) return b.shelf.getOrDefault(name, 0);
        if (what == 1) return b.kept.getOrDefault(name, new int[] {0, 0})[0];
        if (what == 2) return b.kept.getOrDefault(name, new int[] {0, NOT})[1];
        return b.pieces.getOrDefault(name, new int[] {0, 0})[0];
    }
    public int fall(int keeper, int is) {
        if (!isKeeper(keeper) || is < 0 || is > 1) return BAD;
        Body b = bodies.get(keeper);
        int was = b.fallen ? 1 : 0;
        b.fallen = is == 1;
        if (is == 1) {
            b.shelf.clear();
            b.kept.clear();
        }
        return was;
    }
    public int half(int name, int from, int to) {
        if (!isName(name) || !isKeeper(from) || !isKeeper(to) || from == to) return BAD;
        Body a = bodies.get(from), b = bodies.get(to);
        if (!a.shelf.containsKey(name)) return NOT;
        int[] had = a.pieces.remove(name);
        if (!a.up() || !b.up()) return 0;
        int now = had != null && had[1] == to ? had[0] + 1 : 1;
        if (now < 3) a.pieces.put(name, new int[] {now, to});
        else b.receive(name, a.shelf.remove(name));
        return now;
    }
    public int mend(int table) {
        if (!isTable(table)) return BAD;
        int came = 0;
        for (int name = 0; name < words.size(); name++) {
            int most = 0;
            for (Body b : bodies) if (!b.fallen) most = Math.max(most, b.shelf.getOrDefault(name, 0));
            if (most == 0) continue;
            for (int k : boards.get(table).of(name)) {
                Body b = bodies.get(k);
                if (!b.up() || !b.wouldTake(name, most)) continue;
                b.receive(name, most);
                came++;
            }
        }
        return came;
    }
    private int sum(int keeper, int leaf, int leaves) {
        int s = 0;
        for (int name = 0; name < words.size(); name++) {
            int l = name % 8;
            if (l >= leaf && l < leaf + leaves) s += (name + 1) * bodies.get(keeper).shelf.getOrDefault(name, 0);
        }
        return s;
    }
    private int ask(int a, int b, int leaf, int leaves) {
        if (leaves == 1 || sum(a, leaf, leaves) == sum(b, leaf, leaves)) return 0;
        return 2 + ask(a, b, leaf, leaves / 2) + ask(a, b, leaf + leaves / 2, leaves / 2);
    }
    public int trees(int keeper, int other, int what) {
        if (!isKeeper(keeper) || !isKeeper(other) || keeper == other || what < 0 || what > 1) return BAD;
        if (what == 0) return 1 + ask(keeper, other, 0, 8);
        int n = 0;
        for (int l = 0; l < 8; l++) if (sum(keeper, l, 1) != sum(other, l, 1)) n++;
        return n;
    }
    public int noon(int table, int asks, int most) {
        if (!isTable(table) || asks < 0 || asks > 9999 || most < 0 || most > 9999) return BAD;
        for (int many = 1; many <= boards.get(table).counts.size(); many++) {
            if (many * most >= asks) return many;
        }
        return NOT;
    }
    public int lies(int keeper, int late, int turns, int what) {
        if (!isKeeper(keeper) || late < 0 || late > 99 || turns < 1 || turns > 99 || late > turns || what < 0 || what > 1) return BAD;
        int s = bodies.get(keeper).strength, real = 1;
        while (real * turns < s * (turns - late)) real++;
        return what == 0 ? real : 4 * (s - real);
    }
    public int comes(int keeper) {
        if (!isKeeper(keeper) || told.contains(keeper)) return BAD;
        if (told.size() == 5) return FULL;
        told.add(keeper);
        return told.size();
    }
    private int best;
    private void tryAll(Board b, List<Integer> so, int sum) {
        if (so.size() == told.size()) {
            if (best < 0 || sum < best) {
                best = sum;
                found = new ArrayList<>(so);
            }
            return;
        }
        for (int i = 0; i < told.size(); i++) {
            if (so.contains(i)) continue;
            TreeMap<Integer, Integer> counts = new TreeMap<>(b.counts);
            if (counts.remove(told.get(i)) == null) counts.put(told.get(i), bodies.get(told.get(i)).counts());
            if (counts.isEmpty()) continue;
            Board next = new Board(counts, b.z, b.text);
            List<Integer> on = new ArrayList<>(so);
            on.add(i);
            tryAll(next, on, sum + b.movesTo(next, false));
        }
    }
    public int order(int table) {
        if (!isTable(table) || told.isEmpty()) return BAD;
        best = -1;
        tryAll(boards.get(table), new ArrayList<>(), 0);
        if (best < 0) return NOT;
        told.clear();
        return best;
    }
    public int ordered(int i) {
        return i < 0 || i >= found.size() ? BAD : found.get(i);
    }
    public int turning(int z) {
        if (turns.size() == 6) return FULL;
        turns.add(z);
        return turns.size();
    }
    public int harm(int table) {
        if (!isTable(table) || turns.isEmpty()) return BAD;
        int least = Integer.MAX_VALUE, place = 0;
        for (int i = 0; i < turns.size(); i++) {
            Board b = new Board(boards.get(table).counts, turns.get(i), boards.get(table).text);
            int most = 0;
            for (int k : b.counts.keySet()) most = Math.max(most, b.shareOf(k));
            if (most < least) {
                least = most;
                place = i;
            }
        }
        turns.clear();
        greatest = least;
        return place;
    }
    public int harmed() { return greatest; }

    private static final int[] UP = {-1, 0, 0, 0, 0, 0, 1};
    private static final String[] HAS = {"10 11 1 2", "20", "30", "40", "50", "60 61", "70 71"};
    private static String bodyOf(int act) { return new String[] {"1 20 60 71", "10 40 70", "11 30 61", "2 50"}[act]; }
    private int body(Body b, int n, int from, int act, int x) {
        for (int kind = from; kind >= 0; kind = UP[kind]) {
            for (String one : HAS[kind].split(" ")) {
                if (!List.of(bodyOf(act).split(" ")).contains(one)) continue;
                ran.add(Integer.parseInt(one));
                int up = UP[kind], own = b.kind;
                switch (one) {
                    case "1": return x + n;
                    case "10": return body(b, n, own, 0, x) * 2;
                    case "11": return x ^ n;
                    case "2": return body(b, n, own, 1, x) - body(b, n, own, 2, 1);
                    case "20": return body(b, n, up, 0, x) + b.strength;
                    case "30": return body(b, n, up, 2, x) * 3;
                    case "40": return -body(b, n, up, 1, x);
                    case "50": return body(b, n, up, 3, x) ^ 9;
                    case "60": return body(b, n, up, 0, x + 1);
                    case "61": return body(b, n, up, 2, x) - body(b, n, own, 0, 2);
                    case "70": return body(b, n, up, 1, x) + body(b, n, up, 2, x);
                    default: return body(b, n, up, 0, x) * 2;
                }
            }
        }
        throw new IllegalStateException();
    }
    public int act(int keeper, int act, int x) {
        ran = new ArrayList<>();
        if (!isKeeper(keeper) || act < 0 || act > 3) return 0;
        return body(bodies.get(keeper), keeper, bodies.get(keeper).kind, act, x);
    }
    public int trace(int i) {
        return i < 0 || i >= ran.size() || i >= 24 ? BAD : ran.get(i);
    }

    public int keep(int shelf, int keeper) {
        if (shelf < 0 || shelf > 5 || keeper != -1 && !isKeeper(keeper)) return BAD;
        host[shelf] = keeper == -1 ? null : bodies.get(keeper);
        return 1;
    }
    public int row(int shelf, int sort, int n) {
        if (shelf < 0 || shelf > 5 || sort < 0 || sort > 4 || n > 60) return BAD;
        if (n < 0) return -14;
        host[shelf] = new Line(sort, n);
        return 1;
    }
    public int put(int shelf, int i, long v) {
        if (shelf < 0 || shelf > 5) return BAD;
        if (host[shelf] == null) return -11;
        if (!(host[shelf] instanceof Line)) return -12;
        Line l = (Line) host[shelf];
        if (i < 0 || i >= l.v.length) return -13;
        l.v[i] = new long[] {(byte) v, (short) v, (int) v, v, v == 0 ? 0 : 1}[l.sort];
        return 1;
    }
    public long element(int shelf, int i) {
        if (shelf < 0 || shelf > 5 || !(host[shelf] instanceof Line)) return Long.MIN_VALUE;
        Line l = (Line) host[shelf];
        return i < 0 || i >= l.v.length ? Long.MIN_VALUE : l.v[i];
    }
    public int shift(int shelf, int i, int other, int j, int n) {
        if (shelf < 0 || shelf > 5 || other < 0 || other > 5) return BAD;
        if (host[shelf] == null || host[other] == null) return -11;
        if (!(host[shelf] instanceof Line) || !(host[other] instanceof Line)) return -12;
        Line a = (Line) host[shelf], b = (Line) host[other];
        if (a.sort != b.sort) return -12;
        if (i < 0 || j < 0 || n < 0 || (long) i + n > a.v.length || (long) j + n > b.v.length) return -13;
        long[] were = a.v.clone();
        for (int e = 0; e < n; e++) b.v[j + e] = were[i + e];
        return n;
    }
    public int taken(int shelf, int k) {
        if (shelf < 0 || shelf > 5 || k < 0 || k > 6) return BAD;
        if (host[shelf] == null) return -11;
        if (!(host[shelf] instanceof Body)) return -12;
        int kind = ((Body) host[shelf]).kind;
        boolean under = k == 0 || kind == k || kind == 6 && k == 1;
        return under ? kind : -12;
    }
    public int names(int shelf, int i, int n) {
        if (shelf < 0 || shelf > 5 || n < 1 || n > 20) return BAD;
        if (host[shelf] == null) return 0;
        if (!(host[shelf] instanceof Line) || ((Line) host[shelf]).sort != 0) return -12;
        long[] v = ((Line) host[shelf]).v;
        int came = 0, at = i;
        for (int e = 0; e < n && at >= 0 && at < v.length; e++) {
            long size = v[at];
            if (size < 1 || size > 6 || at + 1 + size > v.length) break;
            StringBuilder w = new StringBuilder();
            for (int b = 0; b < size; b++) w.append((char) (v[at + 1 + b] & 255));
            at += 1 + size;
            if (words.contains(w.toString())) continue;
            if (words.size() == 40) break;
            words.add(w.toString());
            came++;
        }
        return came;
    }
    public int count(int what) {
        switch (what) {
            case 0: return words.size();
            case 1: return bodies.size();
            case 2: return boards.size();
            case 3: return tape.length();
            case 4: return bodies.stream().mapToInt(b -> b.shelf.size()).sum();
            case 5: return bodies.stream().mapToInt(b -> b.kept.size()).sum();
            case 6: return writings;
            case 7: return ran.size();
            default: return BAD;
        }
    }
}
