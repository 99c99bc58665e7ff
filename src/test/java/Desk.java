import java.util.ArrayList;
import java.util.List;
import java.util.function.IntPredicate;

/** What the tests by hand share: texts fed, houses built, seats told by the document's own words, answers compared. */
class Desk {
    static final int BAD = -1, NOT = -2, FULL = -3, STATE = -5, VOID = -2000000000;
    static final int NOTHING = -11, OTHER = -12, NO_PLACE = -13, BELOW = -14;
    static final int LEAST = Integer.MIN_VALUE, MOST = Integer.MAX_VALUE;

    static int promise = 0;
    static int wrong = 0;
    static String words = "";

    static void due(String call, long got, long want) {
        if (got == want) return;
        wrong++;
        System.out.println("promise " + promise + (words.isEmpty() ? "" : ", \"" + words + "\"") + ": " + call + " answered " + got + ", due is " + want);
    }

    static void end(String good) {
        System.out.println(wrong == 0 ? good : wrong + " answers are not as due");
        if (wrong != 0) System.exit(1);
    }

    static void feed(SeatsRound x, String text) {
        for (int i = 0; i < text.length(); i += 4) {
            int n = Math.min(4, text.length() - i), v = 0;
            for (int b = 0; b < n; b++) v |= (text.charAt(i + b) & 255) << 8 * b;
            x.feed(n, v);
        }
    }

    static int name(SeatsRound x, String text) {
        feed(x, text);
        return x.name();
    }

    /** Names n0, n1 and so on, as many as told. */
    static void names(SeatsRound x, int many) {
        for (int i = 0; i < many; i++) name(x, "n" + i);
    }

    static int table(SeatsRound x, String law, int keepers, int z) {
        feed(x, law);
        return x.table(keepers, z);
    }

    /** Keepers of strength 1, one for each street told. */
    static SeatsRound house(int... streets) {
        SeatsRound x = new SeatsRound();
        for (int s : streets) x.keeper(s, 1);
        return x;
    }

    static int bits(SeatsRound x) {
        return (1 << x.count(1)) - 1;
    }

    static void fill(SeatsRound x, int shelf, int... bytes) {
        x.row(shelf, 0, bytes.length);
        for (int i = 0; i < bytes.length; i++) x.put(shelf, i, bytes[i]);
    }

    /** NUMBER, with longs and a mask in the place of ints that wrap. */
    static int number(String text, int z) {
        long v = z & 0xFFFFFFFFL;
        for (char b : text.toCharArray()) v = (v ^ b & 255) * 16777619L & 0xFFFFFFFFL;
        return (int) ((v >> 7) % 1000);
    }

    /** A place of the ring for an int, likewise. */
    static int strewn(long v) {
        return (int) (((v * 1103515245L + 12345 & 0xFFFFFFFFL) >> 8) % 1000);
    }

    /** Whose seat is at each place, -2: none; told by the strengths that count (0: not there). */
    static int[] seated(int z, int... strengths) {
        int[] at = new int[1000];
        java.util.Arrays.fill(at, NOT);
        for (int k = 0; k < strengths.length; k++) {
            for (int j = 0; j < 4 * strengths[k]; j++) {
                int p = strewn(k * 7919L + j * 104729L + z);
                while (at[p] != NOT) p = (p + 1) % 1000;
                at[p] = k;
            }
        }
        return at;
    }

    static List<Integer> round(int[] at, int m) {
        List<Integer> picks = new ArrayList<>();
        for (int i = 0; i < 1000; i++) {
            int k = at[(m + i) % 1000];
            if (k != NOT && !picks.contains(k)) picks.add(k);
        }
        return picks;
    }

    static List<Integer> jumps(int[] at, int m) {
        List<Integer> picks = new ArrayList<>();
        int all = round(at, m).size();
        for (int from = m; picks.size() < all; from = (from + 333) % 1000) {
            int p = from;
            while (at[p] == NOT || picks.contains(at[p])) p = (p + 1) % 1000;
            picks.add(at[p]);
        }
        return picks;
    }

    static List<Integer> sums(int m, int z, int... strengths) {
        List<Integer> picks = new ArrayList<>();
        for (int k = 0; k < strengths.length; k++) {
            int at = 0;
            while (at < picks.size() && sum(m, picks.get(at), z) * strengths[picks.get(at)] >= sum(m, k, z) * strengths[k]) at++;
            if (strengths[k] > 0) picks.add(at, k);
        }
        return picks;
    }

    static int sum(int m, int k, int z) {
        return strewn(m * 7919L + k * 104729L + z);
    }

    /** Whom a table picks for a place of the ring, by any way. */
    static List<Integer> picks(int way, int m, int z, int... strengths) {
        if (way == 1) return sums(m, z, strengths);
        return way == 0 ? round(seated(z, strengths), m) : jumps(seated(z, strengths), m);
    }

    /** Strengths of one to five keepers by which there is a turning that picks them in the order of their numbers. */
    private static final int[][] IN_ORDER = {{}, {1}, {1, 1}, {1, 1, 1}, {3, 1, 1, 1}, {4, 1, 5, 1, 1}};

    /** The least turning by which keepers with these strengths are picked ROUND for a name in the order of their numbers. */
    static int turningInOrder(String text, int keepers) {
        return least(z -> isInOrder(round(seated(z, IN_ORDER[keepers]), number(text, z))));
    }

    private static boolean isInOrder(List<Integer> picks) {
        for (int i = 0; i < picks.size(); i++) if (picks.get(i) != i) return false;
        return true;
    }

    /** The least int from 0 on of which it is so; a test that finds none within bounds is a wrong test. */
    static int least(IntPredicate isSo) {
        for (int v = 0; v < 1000000; v++) if (isSo.test(v)) return v;
        throw new IllegalStateException("there is none");
    }

    /** Name 0 is "a"; table 0 of all, by the law told, picks them ROUND for it in the order of their numbers; all know it. */
    static SeatsRound inOrder(String law, int... streets) {
        SeatsRound x = new SeatsRound();
        for (int k = 0; k < streets.length; k++) x.keeper(streets[k], IN_ORDER[streets.length][k]);
        name(x, "a");
        table(x, law, bits(x), turningInOrder("a", streets.length));
        for (int k = 0; k < streets.length; k++) x.knows(k, 0);
        return x;
    }
}
