import java.util.ArrayList;
import java.util.List;

/** Sentences on orders and harm: promises 27 to 32. */
final class OrderSentences extends Desk {
    static void all() {
        SentenceTests.sentence(27, "A KEEPER for ORDER: how many. BAD (also told), FULL: 5.", OrderSentences::fiveAreTold);
        SentenceTests.sentence(28, "KEEPERS told that come (not in a TABLE) or go (in it), 1 .. 5, one by one, each time a new TABLE", OrderSentences::oneToFive);
        SentenceTests.sentence(28, "(the same z, LAW worked out anew, STRENGTHS as they are now for who comes; as in the TABLE for the others)", OrderSentences::anewEachTime);
        SentenceTests.sentence(28, "the order with the least sum of MOVES; of several the first (by places told).", OrderSentences::firstOfSeveral);
        SentenceTests.sentence(28, "There must be one KEEPER at least at any time, else that order is none.", OrderSentences::oneAtLeast);
        SentenceTests.sentence(28, "ORDER from a TABLE: the sum of MOVES; the KEEPERS are none then. BAD: none is told; NOT (they stay).", OrderSentences::orderRefused);
        SentenceTests.sentence(29, "The place of the i-th KEEPER in the latest order() that found one. BAD.", OrderSentences::latestOrder);
        SentenceTests.sentence(30, "A TURNING for HARM: how many. FULL: 6.", OrderSentences::sixTurnings);
        SentenceTests.sentence(31, "TURNINGS told (1 .. 6) for a TABLE (its KEEPERS, LAW; SEATS by that z)", OrderSentences::oneToSix);
        SentenceTests.sentence(31, "the one by which the greatest SHARE is least; of like ones the first.", OrderSentences::firstOfLikeOnes);
        SentenceTests.sentence(31, "HARM of a TABLE: the place of the TURNING; they are none then. BAD (also none is told).", OrderSentences::harmRefused);
        SentenceTests.sentence(32, "The greatest SHARE by the latest harm() that was not BAD. BAD.", OrderSentences::latestHarm);
    }

    private static void fiveAreTold() {
        SeatsRound x = house(0, 1, 2, 3, 4, 5, 0, 1, 2, 3, 4, 5);
        for (int k : new int[] {-1, 12, LEAST, MOST}) due("comes(" + k + ")", x.comes(k), BAD);
        int[] told = {11, 0, 5, 3, 4};
        for (int i = 0; i < 5; i++) {
            due("comes(" + told[i] + ")", x.comes(told[i]), i + 1);
            due("told already", x.comes(told[i]), BAD);
            due("told already", x.comes(11), BAD);
        }
        due("a sixth", x.comes(1), FULL);
        due("told already: BAD is named first", x.comes(5), BAD);
        due("no such KEEPER: BAD is named first", x.comes(12), BAD);
        table(x, "c 1", 2, 0);
        due("five are told still", x.order(0), 0);
        due("none is told", x.comes(11), 1);
    }

    /** A house of keepers with strengths and kinds told; names n0 to n19. */
    private static SeatsRound of(int[] strengths, int[] kinds) {
        SeatsRound x = new SeatsRound();
        for (int k = 0; k < strengths.length; k++) {
            x.keeper(k % 6, strengths[k]);
            x.become(k, kinds[k]);
        }
        names(x, 20);
        return x;
    }

    /** The sum of MOVES on one way, each table made by hand; -1: nobody is left on it. */
    private static int sumOf(int[] strengths, int[] kinds, String law, int z, int set, int[] told, List<Integer> way) {
        SeatsRound x = of(strengths, kinds);
        int now = set, sum = 0, t = table(x, law, now, z);
        for (int place : way) {
            now ^= 1 << told[place];
            if (now == 0) return -1;
            int next = table(x, law, now, z);
            sum += x.moves(t, next, 0);
            t = next;
        }
        return sum;
    }

    private static void ways(int many, List<Integer> begun, List<List<Integer>> all) {
        if (begun.size() == many) all.add(new ArrayList<>(begun));
        for (int i = 0; i < many; i++) {
            if (begun.contains(i)) continue;
            begun.add(i);
            ways(many, begun, all);
            begun.remove(begun.size() - 1);
        }
    }

    /** All ways are gone by hand, in the order of their places; the first of the least ones is due. */
    private static void dueOrder(SeatsRound x, int[] strengths, int[] kinds, String law, int z, int set, int... told) {
        List<List<Integer>> all = new ArrayList<>();
        ways(told.length, new ArrayList<>(), all);
        int least = -1;
        List<Integer> first = null;
        for (List<Integer> way : all) {
            int sum = sumOf(strengths, kinds, law, z, set, told, way);
            if (sum < 0 || least >= 0 && sum >= least) continue;
            least = sum;
            first = way;
        }
        for (int k : told) x.comes(k);
        String call = "order by " + law + " of " + told.length + " from " + set;
        due(call, x.order(0), least);
        for (int i = 0; i < told.length; i++) due(call + ": ordered(" + i + ")", x.ordered(i), first.get(i));
        due(call + ": no more", x.ordered(told.length), BAD);
    }

    private static void dueOrder(String law, int z, int set, int... told) {
        int[] strengths = {1, 2, 3, 1, 2, 3, 1}, kinds = {0, 1, 0, 6, 0, 2, 4};
        SeatsRound x = of(strengths, kinds);
        table(x, law, set, z);
        // Another table and a fault come behind it: its own law is the one that counts.
        table(x, "c 4;s 4;p 2", 127, 99);
        table(x, "s 4;c", 1, 0);
        dueOrder(x, strengths, kinds, law, z, set, told);
    }

    private static void oneToFive() {
        dueOrder("c 2", 5, 3, 2);
        dueOrder("c 2", 5, 3, 1);
        dueOrder("c 2;s 2", 5, 7, 2, 5);
        dueOrder("c 3;p 1", 6, 7, 6, 0, 1);
        dueOrder("c 3;p 2", 7, 15, 6, 5, 4, 3);
        dueOrder("c 2;s 2", 8, 21, 0, 1, 2, 3, 4);
        dueOrder("c 2;p 1", 9, 31, 4, 3, 2, 5, 0);
    }

    private static void anewEachTime() {
        dueOrder("c n-1;s u-1", 3, 3, 2, 3, 4);
        dueOrder("c t-3;s x-2;p 2", -3, 2, 0, 3, 4);
        // The strengths and kinds change behind the table: those in it stay as they are there.
        int[] then = {1, 2, 3, 1, 2, 3}, kinds = {0, 1, 0, 6, 0, 0};
        SeatsRound x = of(then, kinds);
        table(x, "c x-3;p 1", 7, 4);
        int[] now = {8, 7, 6, 5, 4, 3}, nowKinds = {1, 0, 6, 0, 1, 3};
        int[] mixed = new int[6], mixedKinds = new int[6];
        for (int k = 0; k < 6; k++) {
            x.strength(k, now[k]);
            x.become(k, nowKinds[k]);
            mixed[k] = k < 3 ? then[k] : now[k];
            mixedKinds[k] = k < 3 ? kinds[k] : nowKinds[k];
        }
        dueOrder(x, mixed, mixedKinds, "c x-3;p 1", 4, 7, 3, 0, 4);
    }

    private static void firstOfSeveral() {
        SeatsRound x = house(0, 1, 2, 3, 4, 5);
        table(x, "c 1", 1, 0);
        for (int k = 5; k > 0; k--) x.comes(k);
        due("no NAMES: all orders are alike", x.order(0), 0);
        for (int i = 0; i < 5; i++) due("by places told", x.ordered(i), i);
        SeatsRound y = house(0, 1, 2);
        name(y, "a");
        table(y, "c 2", 3, 0);
        // 2 comes in the place of one that goes: one copy moves whichever comes first; by 0 and 1 going two move.
        y.comes(2);
        int sum = y.order(0);
        y.comes(2);
        y.comes(0);
        due("the sum is not less than for 2 alone", y.order(0) >= sum ? 1 : 0, 1);
        for (int z = 0; z < 6; z++) dueOrder("c 2;s 2", 40 + z, 13, 4, 0, 1);
    }

    private static void oneAtLeast() {
        SeatsRound x = house(0, 1, 2);
        name(x, "a");
        table(x, "c 2", 1, 0);
        table(x, "c 2", 3, 0);
        x.comes(0);
        due("the only one goes", x.order(0), NOT);
        x.comes(1);
        due("both go", x.order(1), NOT);
        due("1 comes first", x.order(0), 1);
        due("the place of 1", x.ordered(0), 1);
        due("the place of 0", x.ordered(1), 0);
        x.comes(1);
        due("one of two goes", x.order(1), 0);
        x.comes(0);
        x.comes(1);
        x.comes(2);
        due("both go, one comes", x.order(1), 1);
        due("not 0 and 1 ahead of 2", x.ordered(2) == 2 ? 1 : 0, 0);
    }

    private static void orderRefused() {
        SeatsRound x = house(0, 1);
        due("no TABLE", x.order(0), BAD);
        table(x, "c 1", 1, 0);
        due("none is told", x.order(0), BAD);
        x.comes(0);
        for (int t : new int[] {-1, 1, LEAST, MOST}) due("order(" + t + "): BAD is named first", x.order(t), BAD);
        due("NOT", x.order(0), NOT);
        due("they stay", x.comes(0), BAD);
        due("they stay", x.comes(1), 2);
        due("no order() found one", x.ordered(0), BAD);
        due("ORDER", x.order(0), 0);
        due("they are none then", x.order(0), BAD);
        due("they are none then", x.comes(0), 1);
    }

    private static void latestOrder() {
        SeatsRound x = house(0, 1, 2);
        due("none yet", x.ordered(0), BAD);
        table(x, "c 1", 1, 0);
        x.comes(0);
        x.comes(2);
        x.comes(1);
        due("told, not ordered", x.ordered(0), BAD);
        due("ORDER", x.order(0), 0);
        for (int i : new int[] {-1, 3, 5, LEAST, MOST}) due("ordered(" + i + ")", x.ordered(i), BAD);
        due("the first", x.ordered(0), 1);
        due("the last", x.ordered(2), 2);
        due("BAD", x.order(0), BAD);
        due("stays behind BAD", x.ordered(0), 1);
        x.comes(0);
        due("NOT", x.order(0), NOT);
        due("stays behind NOT", x.ordered(2), 2);
        due("stays behind NOT", x.ordered(0), 1);
        x.comes(1);
        due("a shorter one", x.order(0), 0);
        due("the first", x.ordered(0), 1);
        due("no third", x.ordered(2), BAD);
    }

    private static void sixTurnings() {
        SeatsRound x = house(0);
        int[] any = {LEAST, MOST, 0, 0, -1, 1};
        for (int i = 0; i < 6; i++) due("turning(" + any[i] + ")", x.turning(any[i]), i + 1);
        for (int z : any) due("a seventh", x.turning(z), FULL);
        table(x, "c 1", 1, 0);
        due("six are told still", x.harm(0), 0);
        due("none is told", x.turning(0), 1);
    }

    /** The greatest share of keepers with strengths that count as told, by a turning, ROUND. */
    private static int greatest(int z, int names, int... strengths) {
        int[] shares = new int[strengths.length], at = seated(z, strengths);
        int most = 0;
        for (int n = 0; n < names; n++) most = Math.max(most, ++shares[round(at, number("n" + n, z)).get(0)]);
        return most;
    }

    private static void dueHarm(int... turnings) {
        SeatsRound x = new SeatsRound();
        for (int k = 0; k < 4; k++) x.keeper(k, 1 + k);
        names(x, 40);
        table(x, "c 1;s 3", 11, 123);
        int best = 0;
        for (int i = 0; i < turnings.length; i++) {
            x.turning(turnings[i]);
            if (greatest(turnings[i], 40, 1, 2, 0, 4) < greatest(turnings[best], 40, 1, 2, 0, 4)) best = i;
        }
        // Strengths of now, other tables and their laws do not matter: the table has its own.
        x.strength(0, 8);
        table(x, "p 1", 4, 7);
        table(x, "p 2;", 15, 7);
        due("harm of " + turnings.length, x.harm(0), best);
        due("harmed()", x.harmed(), greatest(turnings[best], 40, 1, 2, 0, 4));
        due("the table's own SEATS stay", x.seat(0, strewn(123)), 0);
    }

    private static void oneToSix() {
        dueHarm(0);
        dueHarm(LEAST);
        dueHarm(1, 2);
        dueHarm(1, 2, 3, 4, 5, 6);
        dueHarm(6, 5, 4, 3, 2, 1);
        dueHarm(LEAST, MOST, -1, 0, 77, -77);
        SeatsRound x = house(0, 1);
        names(x, 40);
        table(x, "p 1", 3, 0);
        for (int z = 0; z < 6; z++) x.turning(z);
        int place = x.harm(0);
        int least = 41, best = 0;
        for (int z = 0; z < 6; z++) {
            int t = table(x, "p 1", 3, z), most = Math.max(x.share(t, 0, 0), x.share(t, 1, 0));
            if (most < least) best = z;
            least = Math.min(least, most);
        }
        due("by SUMS", place, best);
        due("by SUMS", x.harmed(), least);
    }

    private static void firstOfLikeOnes() {
        SeatsRound x = house(0, 1);
        table(x, "c 1", 1, 0);
        for (int i = 0; i < 6; i++) x.turning(i);
        due("no NAMES: all are alike", x.harm(0), 0);
        due("no SHARE", x.harmed(), 0);
        names(x, 40);
        for (int i = 0; i < 6; i++) x.turning(i);
        due("one alone: all are alike", x.harm(0), 0);
        due("all NAMES", x.harmed(), 40);
        table(x, "c 1", 3, 0);
        int better = least(z -> greatest(z, 40, 1, 1) == 20), worse = least(z -> greatest(z, 40, 1, 1) > 20);
        for (int z : new int[] {worse, better, worse, better}) x.turning(z);
        due("the first of the two that are least", x.harm(1), 1);
        due("as even as can be", x.harmed(), 20);
    }

    private static void harmRefused() {
        SeatsRound x = house(0);
        due("no TABLE", x.harm(0), BAD);
        x.turning(3);
        table(x, "c 1", 1, 0);
        for (int t : new int[] {-1, 1, LEAST, MOST}) due("harm(" + t + ")", x.harm(t), BAD);
        due("they stay", x.turning(4), 2);
        due("harm(0)", x.harm(0), 0);
        due("none is told", x.harm(0), BAD);
        due("they are none then", x.turning(4), 1);
    }

    private static void latestHarm() {
        SeatsRound x = house(0);
        due("none yet", x.harmed(), BAD);
        names(x, 2);
        table(x, "c 1", 1, 0);
        due("BAD", x.harm(0), BAD);
        due("none yet", x.harmed(), BAD);
        x.turning(0);
        due("told, not done", x.harmed(), BAD);
        x.harm(0);
        due("two", x.harmed(), 2);
        due("BAD", x.harm(0), BAD);
        due("stays behind BAD", x.harmed(), 2);
        name(x, "b");
        due("it is of then", x.harmed(), 2);
        x.turning(1);
        x.turning(2);
        x.harm(0);
        due("the latest, a greater one", x.harmed(), 3);
    }
}
