import java.lang.reflect.Method;
import java.util.ArrayList;
import java.util.List;
import java.util.Random;
import java.util.TreeMap;

/** Runs of calls drawn with fixed seeds, each answer compared with Model's; and what refusals must leave alone. */
public final class FuzzTests {
    private static final int RUNS = 500, CALLS = 512;
    private static final TreeMap<String, Method> OURS = methodsOf(SeatsRound.class), THEIRS = methodsOf(Model.class);
    private static final int[] EDGES = {-2, -1, 0, 1, 1000, 999, 60, 61, Integer.MAX_VALUE, Integer.MIN_VALUE, 4095, 40, 12, 10};
    private static int wrong = 0;

    private final Random random;
    private final SeatsRound ours = new SeatsRound();
    private final Model model = new Model();
    private final List<String> story = new ArrayList<>();

    private FuzzTests(long seed) {
        random = new Random(seed);
    }

    private static TreeMap<String, Method> methodsOf(Class<?> c) {
        TreeMap<String, Method> all = new TreeMap<>();
        for (Method m : c.getDeclaredMethods()) {
            if (java.lang.reflect.Modifier.isPublic(m.getModifiers())) all.put(m.getName(), m);
        }
        return all;
    }

    public static void main(String[] args) throws Exception {
        if (!OURS.keySet().equals(THEIRS.keySet())) throw new IllegalStateException("the model's face is another one");
        TreeMap<String, Integer> answered = new TreeMap<>();
        for (long seed = 1; seed <= RUNS && wrong < 5; seed++) new FuzzTests(seed).run(answered);
        System.out.println(wrong == 0 ? RUNS + " runs agree with the model" : wrong + " runs do not agree");
        if (args.length > 1) System.out.println(answered);
        if (wrong != 0) System.exit(1);
    }

    private void run(TreeMap<String, Integer> answered) throws Exception {
        int mood = random.nextInt(4);
        boolean begun = mood == 3 || begin();
        for (int calls = 0; calls < CALLS; calls++) {
            if (!begun || !step(mood, answered)) {
                wrong++;
                System.out.println(String.join("\n", story.subList(Math.max(0, story.size() - 15), story.size())));
                return;
            }
        }
        if (!statesAgree()) {
            wrong++;
            System.out.println("the states differ behind a run of mood " + mood);
        }
    }

    /** A house that is well filled from the start, so that shelves get full and sleepers are kept for. */
    private boolean begin() throws Exception {
        int many = 3 + random.nextInt(10);
        boolean good = true;
        for (int k = 0; k < many; k++) good &= call(null, "keeper", random.nextInt(6), 1 + random.nextInt(random.nextBoolean() ? 8 : 2));
        for (int k = 0; k < many; k++) good &= random.nextInt(3) != 0 || call(null, "become", k, random.nextInt(7));
        for (int n = 0; n < 14; n++) good &= feedText(randomName()) && call(null, "name");
        good &= feedText("c 4;s 2;p " + random.nextInt(3)) && call(null, "table", (1 << many) - 1, turn());
        good &= feedText("p " + random.nextInt(3)) && call(null, "table", bits(), turn());
        for (int k = 0; k < many; k++) good &= call(null, "knows", k, random.nextInt(2));
        return good;
    }

    private boolean step(int mood, TreeMap<String, Integer> answered) throws Exception {
        int d = random.nextInt(100);
        if (d < 4) return feedText(random.nextInt(4) == 0 ? randomName() : law()) && call(answered, "table", bits(), turn());
        if (d < 10) return feedText(randomName()) && call(answered, "name");
        if (d < (mood == 0 ? 40 : 16)) return call(answered, "write", keeper(), name());
        if (d < 22) return call(answered, "become", keeper(), random.nextInt(mood == 1 ? 7 : 5));
        if (d < 25) return call(answered, "keeper", random.nextInt(7), 1 + random.nextInt(8));
        if (d < 30) return call(answered, "knows", keeper(), table());
        if (d < 33) return call(answered, "half", name(), keeper() & 3, keeper() & 3);
        if (d < 36) return call(answered, "comes", keeper());
        List<String> all = new ArrayList<>(OURS.keySet());
        String which = all.get(random.nextInt(all.size()));
        return call(answered, which, argumentsFor(which));
    }

    private long[] argumentsFor(String which) {
        switch (which) {
            case "feed": return new long[] {edge(random.nextInt(5)), random.nextInt()};
            case "name": case "harmed": return new long[] {};
            case "number": return new long[] {name(), turn()};
            case "keeper": return new long[] {edge(random.nextInt(6)), edge(random.nextInt(9))};
            case "become": return new long[] {keeper(), edge(random.nextInt(7))};
            case "strength": return new long[] {keeper(), edge(random.nextInt(9))};
            case "ofKeeper": return new long[] {keeper(), edge(random.nextInt(8))};
            case "table": return new long[] {edge(bits()), turn()};
            case "ofTable": return new long[] {table(), edge(random.nextInt(6))};
            case "seat": return new long[] {table(), edge(random.nextInt(1000))};
            case "picked": return new long[] {table(), edge(random.nextInt(1000)), edge(random.nextInt(12))};
            case "keeperOf": return new long[] {table(), name(), edge(random.nextInt(5) - 1)};
            case "tooFew": case "mend": case "order": case "harm": return new long[] {table()};
            case "share": return new long[] {table(), keeper(), edge(random.nextInt(2))};
            case "moves": return new long[] {table(), table(), edge(random.nextInt(2))};
            case "knows": return new long[] {keeper(), table()};
            case "write": case "read": return new long[] {keeper(), name()};
            case "onShelf": return new long[] {keeper(), name(), edge(random.nextInt(4))};
            case "fall": return new long[] {keeper(), edge(random.nextInt(4) / 3)};
            case "half": return new long[] {name(), keeper(), keeper()};
            case "trees": return new long[] {keeper(), keeper(), edge(random.nextInt(2))};
            case "noon": return new long[] {table(), edge(random.nextInt(200)), edge(random.nextInt(100))};
            case "lies": return new long[] {keeper(), edge(random.nextInt(100)), edge(random.nextInt(100)), edge(random.nextInt(2))};
            case "comes": return new long[] {keeper()};
            case "ordered": return new long[] {edge(random.nextInt(5))};
            case "turning": return new long[] {turn()};
            case "act": return new long[] {keeper(), edge(random.nextInt(4)), random.nextInt()};
            case "trace": return new long[] {edge(random.nextInt(10))};
            case "keep": return new long[] {shelf(), keeper()};
            case "row": return new long[] {shelf(), random.nextInt(3) == 0 ? edge(random.nextInt(5)) : 0, edge(random.nextInt(61))};
            case "put": return new long[] {shelf(), edge(random.nextInt(30)), random.nextInt(3) == 0 ? random.nextLong() : random.nextInt(5)};
            case "element": return new long[] {shelf(), edge(random.nextInt(60))};
            case "shift": return new long[] {shelf(), edge(random.nextInt(30)), shelf(), edge(random.nextInt(30)), edge(random.nextInt(20))};
            case "taken": return new long[] {shelf(), edge(random.nextInt(7))};
            case "names": return new long[] {shelf(), edge(random.nextInt(20)), edge(random.nextInt(21))};
            default: return new long[] {edge(random.nextInt(8))};
        }
    }

    private int edge(int ordinary) {
        return random.nextInt(25) == 0 ? EDGES[random.nextInt(EDGES.length)] : ordinary;
    }
    private int keeper() { return edge(random.nextInt(Math.max(1, model.bodies.size() + (random.nextInt(20) == 0 ? 1 : 0)))); }
    private int name() { return edge(random.nextInt(Math.max(1, model.words.size()))); }
    private int table() { return edge(random.nextInt(Math.max(1, model.boards.size()))); }
    private int shelf() { return edge(random.nextInt(6)); }
    private int turn() { return random.nextInt(3) == 0 ? random.nextInt() : random.nextInt(20) - 10; }
    private int bits() {
        int all = (1 << model.bodies.size()) - 1;
        return random.nextInt(4) == 0 ? all : all & random.nextInt();
    }

    private String randomName() {
        StringBuilder s = new StringBuilder();
        int size = 1 + random.nextInt(random.nextInt(10) == 0 ? 8 : 6);
        for (int i = 0; i < size; i++) s.append((char) (random.nextInt(8) == 0 ? random.nextInt(256) : 'a' + random.nextInt(5)));
        return s.toString();
    }

    private String law() {
        StringBuilder s = new StringBuilder();
        String letters = random.nextBoolean() ? "csp" : random.nextBoolean() ? "pcs" : "sp";
        int parts = 1 + random.nextInt(letters.length());
        for (int i = 0; i < parts; i++) {
            char c = letters.charAt(i);
            s.append(i > 0 ? ";" : "").append(c).append(' ').append(c == 'p' ? "" + random.nextInt(3) : sum(0));
        }
        if (s.length() > 78) s.setLength(78);
        int spoil = random.nextInt(5);
        String signs = "csp ;0123456789+-*/%()nutxq" + (char) 0 + (char) 255;
        char one = signs.charAt(random.nextInt(signs.length()));
        if (spoil == 0) s.setCharAt(random.nextInt(s.length()), one);
        if (spoil == 1) s.insert(random.nextInt(s.length() + 1), one);
        return s.toString();
    }

    private String sum(int depth) {
        StringBuilder s = new StringBuilder();
        int many = random.nextInt(3) == 0 ? 3 : 1;
        for (int i = 0; i < many; i++) {
            if (i > 0) s.append("+-*/%".charAt(random.nextInt(5)));
            int d = random.nextInt(8);
            if (d < 2 && depth < 4) s.append('(').append(sum(depth + 1)).append(')');
            else if (d < 5) s.append("nutx".charAt(random.nextInt(4)));
            else s.append(random.nextInt(d == 7 ? 1000 : 6));
        }
        return s.toString();
    }

    private boolean feedText(String text) throws Exception {
        for (int i = 0; i < text.length(); i += 4) {
            int n = Math.min(4, text.length() - i), v = 0;
            for (int b = 0; b < n; b++) v |= text.charAt(i + b) << 8 * b;
            if (!call(null, "feed", n, v)) return false;
        }
        return true;
    }

    private boolean call(TreeMap<String, Integer> answered, String which, long... a) throws Exception {
        long want = on(model, THEIRS.get(which), a), got;
        story.add(which + java.util.Arrays.toString(a) + " due " + want);
        boolean refused = isRefusal(which, want) && random.nextInt(20) == 0;
        long before = refused ? digest() : 0;
        try {
            got = on(ours, OURS.get(which), a);
        } catch (java.lang.reflect.InvocationTargetException e) {
            story.add("threw " + e.getCause());
            return false;
        }
        if (refused && before != digest()) {
            story.add("a refused call changed something");
            return false;
        }
        if (answered != null) answered.merge(which + (want < 0 && want > -100 ? " " + want : ""), 1, Integer::sum);
        if (got != want) story.add("answered " + got);
        return got == want;
    }

    private static boolean isRefusal(String which, long answer) {
        switch (which) {
            case "knows": case "ofKeeper": return answer == SeatsRound.VOID;
            case "element": return answer == Long.MIN_VALUE;
            case "act": return false;
            default: return answer < 0 && answer > -100;
        }
    }

    private static long on(Object o, Method m, long... a) throws Exception {
        Object[] args = new Object[a.length];
        Class<?>[] types = m.getParameterTypes();
        for (int i = 0; i < a.length; i++) {
            if (types[i] == long.class) args[i] = a[i];
            else args[i] = (int) a[i];
        }
        return ((Number) m.invoke(o, args)).longValue();
    }

    private long digest() {
        return digestOf(ours);
    }

    private static long digestOf(SeatsRound x) {
        long d = 7;
        for (int w = 0; w < 8; w++) d = d * 31 + x.count(w);
        for (int k = 0; k < 12; k++) {
            for (int w = 0; w < 8; w++) d = d * 31 + x.ofKeeper(k, w);
            for (int n = 0; n < 40; n++) for (int w = 0; w < 4; w++) d = d * 31 + x.onShelf(k, n, w);
        }
        for (int i = 0; i < 5; i++) d = d * 31 + x.ordered(i);
        for (int i = 0; i < 24; i++) d = d * 31 + x.trace(i);
        for (int s = 0; s < 6; s++) {
            d = d * 31 + x.taken(s, 0);
            for (int i = 0; i < 60; i++) d = d * 31 + x.element(s, i);
        }
        return d * 31 + x.harmed();
    }

    private boolean statesAgree() throws Exception {
        for (int k = 0; k < 12; k++) {
            for (int w = 0; w < 8; w++) if (ours.ofKeeper(k, w) != model.ofKeeper(k, w)) return false;
            for (int n = 0; n < 40; n++) for (int w = 0; w < 4; w++) if (ours.onShelf(k, n, w) != model.onShelf(k, n, w)) return false;
        }
        for (int t = 0; t < 10; t++) {
            for (int w = 0; w < 5; w++) if (ours.ofTable(t, w) != model.ofTable(t, w)) return false;
            for (int p = 0; p < 1000; p++) if (ours.seat(t, p) != model.seat(t, p)) return false;
        }
        for (int w = 0; w < 8; w++) if (ours.count(w) != model.count(w)) return false;
        return true;
    }
}
