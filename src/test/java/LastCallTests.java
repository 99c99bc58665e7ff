import java.util.function.IntToLongFunction;
import java.util.function.LongSupplier;

/** "An object is used for at most 512 calls after it has been made": the last of 512 calls keeps its promise too. */
public final class LastCallTests extends Desk {
    private static final int CALLS = 512;
    private static SeatsRound x;
    private static int calls;
    private static int lasts = 0;

    public static void main(String[] args) {
        behindIdleCalls();
        behindNamesAndTables();
        behindParcels();
        behindOrdersAndRows();
        end("512 calls hold, " + lasts + " times");
    }

    /** One call more. */
    private static long did(long answer) {
        calls++;
        return answer;
    }

    private static void text(String text) {
        for (int i = 0; i < text.length(); i++) did(x.feed(1, text.charAt(i)));
    }

    /** Two keepers, names "a" and "b", table 0 by which keeper 0 has "a" alone; both know it: 12 calls, so 499 are left ahead of the last. */
    private static void anew() {
        x = new SeatsRound();
        calls = 0;
        did(x.keeper(0, 1));
        did(x.keeper(1, 1));
        text("a");
        did(x.name());
        text("b");
        did(x.name());
        text("c 1");
        did(x.table(3, turningInOrder("a", 2)));
        did(x.knows(0, 0));
        did(x.knows(1, 0));
    }

    /** Steps, told with their number from 0, till one call is left. */
    private static void until511(IntToLongFunction step) {
        for (int i = 0; calls < CALLS - 1; i++) did(step.applyAsLong(i));
    }

    private static void last(int itsPromise, String call, long want, LongSupplier ask) {
        promise = itsPromise;
        due("calls ahead of " + call, calls, CALLS - 1);
        due("the 512th call, " + call, ask.getAsLong(), want);
        lasts++;
    }

    /** The 512th call behind calls that change nothing, those that are refused among them. */
    private static void idle(int itsPromise, String call, long want, LongSupplier ask, Runnable... ahead) {
        anew();
        for (Runnable r : ahead) r.run();
        until511(i -> i % 5 == 0 ? x.count(i % 9) : i % 5 == 1 ? x.feed(9, i) : i % 5 == 2 ? x.read(i % 3, i % 3) : i % 5 == 3 ? x.element(i % 7, i) : x.half(7, i, 0));
        last(itsPromise, call, want, ask);
    }

    private static void behindIdleCalls() {
        int z = turningInOrder("a", 2);
        int[] at = seated(z, 1, 1);
        int place = least(p -> at[p] == 1), free = least(p -> at[p] == NOT), m = number("a", z);
        int odds = 0;
        for (int p = 0; p < 1000; p++) if (round(at, p).get(0) == 0) odds++;
        int first = odds, ofB = round(at, number("b", z)).get(0) == 0 ? 2 : 1;
        Runnable tape = () -> text("c");
        idle(2, "feed(4, 0)", 4, () -> x.feed(4, 0));
        idle(2, "feed(0, 0)", BAD, () -> x.feed(0, 0));
        idle(3, "name()", 2, () -> x.name(), tape);
        idle(3, "name() of nothing", BAD, () -> x.name());
        idle(4, "number(1, -5)", number("b", -5), () -> x.number(1, -5));
        idle(5, "keeper(5, 8)", 2, () -> x.keeper(5, 8));
        idle(6, "become(1, 6)", 0, () -> x.become(1, 6));
        idle(7, "strength(1, 8)", 1, () -> x.strength(1, 8));
        idle(8, "ofKeeper(1, 1)", 1, () -> x.ofKeeper(1, 1));
        idle(9, "table(3, 0)", 1, () -> x.table(3, 0), () -> text("c 4"));
        idle(9, "table(3, 0) with a FAULT", -101, () -> x.table(3, 0), tape);
        idle(10, "ofTable(0, 5)", Math.abs(1000 - 2 * first), () -> x.ofTable(0, 5));
        idle(11, "seat", 1, () -> x.seat(0, place));
        idle(11, "seat", NOT, () -> x.seat(0, free));
        idle(12, "picked", 1, () -> x.picked(0, m, 1));
        idle(13, "keeperOf(0, 0, 0)", 0, () -> x.keeperOf(0, 0, 0));
        idle(14, "tooFew(0)", 0, () -> x.tooFew(0));
        idle(15, "share(0, 0, 1)", first, () -> x.share(0, 0, 1));
        idle(15, "share(0, 0, 0)", ofB, () -> x.share(0, 0, 0));
        idle(16, "moves(0, 0, 0)", 0, () -> x.moves(0, 0, 0));
        idle(17, "knows(0, -1)", 0, () -> x.knows(0, -1));
        idle(18, "write(1, 0)", 1, () -> x.write(1, 0));
        idle(18, "write(0, 0)", STATE, () -> x.write(0, 0), () -> did(x.become(0, 4)));
        idle(19, "read(1, 0)", 1, () -> x.read(1, 0), () -> did(x.write(1, 0)));
        idle(20, "onShelf(1, 0, 2)", 0, () -> x.onShelf(1, 0, 2), () -> did(x.become(0, 4)), () -> did(x.write(1, 0)));
        idle(21, "fall(0, 1)", 0, () -> x.fall(0, 1));
        Runnable write = () -> did(x.write(1, 0)), piece = () -> did(x.half(0, 0, 1));
        idle(22, "half(0, 0, 1)", 3, () -> x.half(0, 0, 1), write, piece, piece);
        idle(23, "mend(0)", 1, () -> x.mend(0), write, piece, piece, piece);
        idle(24, "trees(0, 1, 0)", 7, () -> x.trees(0, 1, 0), write);
        idle(24, "trees(0, 1, 1)", 1, () -> x.trees(0, 1, 1), write);
        idle(25, "noon(0, 9999, 5000)", 2, () -> x.noon(0, 9999, 5000));
        idle(26, "lies(0, 0, 1, 0)", 1, () -> x.lies(0, 0, 1, 0));
        Runnable goes = () -> did(x.comes(0));
        idle(27, "comes(1)", 2, () -> x.comes(1), goes);
        idle(28, "order(0)", ofB, () -> x.order(0), goes);
        idle(29, "ordered(0)", 0, () -> x.ordered(0), goes, () -> did(x.order(0)));
        idle(30, "turning(-1)", 1, () -> x.turning(-1));
        idle(31, "harm(0)", 0, () -> x.harm(0), () -> did(x.turning(z)));
        idle(32, "harmed()", Math.max(ofB, 2 - ofB), () -> x.harmed(), () -> did(x.turning(z)), () -> did(x.harm(0)));
        idle(33, "act(1, 1, 20)", 42, () -> x.act(1, 1, 20));
        idle(34, "trace(1)", 1, () -> x.trace(1), () -> did(x.act(1, 1, 20)));
        Runnable row = () -> did(x.row(5, 0, 60)), put = () -> did(x.put(5, 58, 1));
        idle(35, "keep(5, 1)", 1, () -> x.keep(5, 1));
        idle(36, "row(5, 4, 60)", 1, () -> x.row(5, 4, 60));
        idle(37, "put(5, 59, -1)", 1, () -> x.put(5, 59, -1), row);
        idle(38, "element(5, 58)", 1, () -> x.element(5, 58), row, put);
        idle(39, "shift(5, 0, 5, 1, 59)", 59, () -> x.shift(5, 0, 5, 1, 59), row);
        idle(40, "taken(0, 0)", 0, () -> x.taken(0, 0), () -> did(x.keep(0, 1)));
        idle(41, "names(5, 58, 20)", 1, () -> x.names(5, 58, 20), row, put);
        idle(42, "count(3)", 1, () -> x.count(3), tape);
    }

    /** A call that changes nothing, where the steps are to end at another one. */
    private static void oneCallMore() {
        did(x.count(0));
    }

    private static void behindNamesAndTables() {
        anew();
        until511(i -> i % 2 == 0 ? x.feed(1, 'b') : x.name());
        last(3, "name() of one that there is", 1, () -> x.name());
        anew();
        oneCallMore();
        until511(i -> i % 2 == 0 ? x.feed(1, 'b') : x.name());
        last(2, "feed(4, 0) to a tape that is empty again", 4, () -> x.feed(4, 0));
        anew();
        until511(i -> i % 2 == 0 ? x.feed(1, i % 4 == 0 ? 'c' : 'z') : x.table(3, i));
        last(9, "table() behind many with a FAULT", -100, () -> x.table(3, 0));
        due("one TABLE", x.count(2), 1);
        anew();
        until511(i -> x.feed(1 + i % 4, i));
        last(2, "feed(1, 0)", FULL, () -> x.feed(1, 0));
        anew();
        until511(i -> x.keeper(i % 6, 1 + i % 8));
        last(5, "keeper(0, 1)", FULL, () -> x.keeper(0, 1));
        anew();
        until511(i -> x.strength(1, 1 + i % 8));
        last(7, "strength(1, 1)", 1 + 498 % 8, () -> x.strength(1, 1));
    }

    private static void behindParcels() {
        anew();
        until511(i -> x.write(1, 0));
        last(19, "read(1, 0)", 499, () -> x.read(1, 0));
        anew();
        until511(i -> x.write(i % 2, i % 2));
        last(42, "count(6)", 499, () -> x.count(6));
        anew();
        did(x.become(0, 4));
        until511(i -> x.write(1, 0));
        last(20, "onShelf(1, 0, 1)", 498, () -> x.onShelf(1, 0, 1));
        anew();
        did(x.become(0, 4));
        until511(i -> x.write(1, 0));
        last(6, "become(0, 6)", 4, () -> x.become(0, 6));
        due("it came", x.onShelf(0, 0, 0), 498);
        anew();
        did(x.write(1, 0));
        oneCallMore();
        until511(i -> x.half(0, i / 3 % 2, 1 - i / 3 % 2));
        last(22, "half(), back and forth", 3, () -> x.half(0, 1, 0));
        due("it came back", x.onShelf(0, 0, 0), 1);
        anew();
        oneCallMore();
        until511(i -> i % 3 == 0 ? x.write(1, 0) : x.fall(0, i % 3 == 1 ? 1 : 0));
        last(18, "write() to one that fell and rose", 1, () -> x.write(1, 0));
        due("VERSION", x.onShelf(0, 0, 0), 498 / 3 + 1);
        anew();
        oneCallMore();
        until511(i -> i % 3 == 0 ? x.become(0, 4) : i % 3 == 1 ? x.write(1, 0) : x.become(0, 0));
        last(19, "read() behind many that were handed back", 498 / 3, () -> x.read(1, 0));
        anew();
        did(x.write(1, 0));
        until511(i -> x.mend(0));
        last(23, "mend(0)", 0, () -> x.mend(0));
        anew();
        until511(i -> x.write(1, 0));
        last(24, "trees(1, 0, 0)", 7, () -> x.trees(1, 0, 0));
        anew();
        oneCallMore();
        until511(i -> x.knows(1, i % 2 - 1));
        last(17, "knows(1, -1)", 0, () -> x.knows(1, -1));
    }

    private static void behindOrdersAndRows() {
        int z = turningInOrder("a", 2), ofB = round(seated(z, 1, 1), number("b", z)).get(0) == 0 ? 2 : 1;
        anew();
        until511(i -> i % 2 == 0 ? x.comes(0) : x.order(0));
        last(28, "order(0)", ofB, () -> x.order(0));
        anew();
        until511(i -> i % 7 < 6 ? x.turning(i) : x.harm(0));
        last(30, "turning(0)", 1 + 499 % 7, () -> x.turning(0));
        anew();
        until511(i -> x.act(i % 2, i % 4, i));
        last(33, "act(1, 2, 6)", 7, () -> x.act(1, 2, 6));
        anew();
        until511(i -> x.row(i % 6, i % 5, i % 61));
        last(36, "row(0, 0, 61)", BAD, () -> x.row(0, 0, 61));
        anew();
        did(x.row(0, 3, 60));
        did(x.put(0, 0, 7));
        until511(i -> i < 59 ? x.shift(0, i, 0, i + 1, 1) : x.put(0, 0, i));
        last(38, "element(0, 59)", 7, () -> x.element(0, 59));
        anew();
        did(x.row(0, 0, 60));
        until511(i -> i % 3 == 0 ? x.put(0, 0, 1) : i % 3 == 1 ? x.put(0, 1, i / 3) : x.names(0, 0, 20));
        last(42, "count(0)", 40, () -> x.count(0));
        anew();
        until511(i -> x.keep(i % 6, i % 3 - 1));
        last(40, "taken(5, 0)", 0, () -> x.taken(5, 0));
    }
}
