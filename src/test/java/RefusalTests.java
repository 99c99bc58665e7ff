import java.util.ArrayList;
import java.util.List;
import java.util.function.Consumer;
import java.util.function.ToLongFunction;

/**
 * "Answers, of several the one named first ..", "What is answered so changes nothing.": every refusal of every promise.
 * Of two objects that are alike one is asked what is refused; behind it both must answer everything alike.
 */
public final class RefusalTests extends Desk {
    private static final Consumer<SeatsRound> AS_IT_IS = x -> { };
    private static int refusals = 0;

    public static void main(String[] args) {
        namesAndKeepers();
        tables();
        parcels();
        ordersAndHarm();
        actsAndRows();
        fullHouse();
        end(refusals + " refusals change nothing");
    }

    /** A house in which every call has something to spoil. */
    private static SeatsRound busy(Consumer<SeatsRound> ahead) {
        SeatsRound x = new SeatsRound();
        for (int k = 0; k < 7; k++) x.keeper(k % 6, 1 + k);
        names(x, 10);
        table(x, "c 2;s 2", 63, 3);
        table(x, "c 1", 2, 0);
        table(x, "c 3;p 1", 127, 5);
        for (int k = 0; k < 6; k++) x.knows(k, k % 3);
        x.become(3, 6);
        x.become(4, 4);
        for (int n = 0; n < 10; n++) {
            x.write(0, n);
            x.write(2, n);
            if (n < 5) x.write(1, n);
        }
        x.fall(5, 1);
        x.half(0, 1, 2);
        x.half(0, 1, 2);
        x.half(1, 1, 0);
        x.comes(6);
        x.comes(0);
        x.order(0);
        x.comes(1);
        x.comes(6);
        x.turning(8);
        x.harm(2);
        x.turning(5);
        x.turning(6);
        x.act(3, 3, 7);
        fill(x, 0, 1, 'a', 2, 'b', 'c');
        x.keep(1, 3);
        x.row(2, 3, 4);
        x.put(2, 3, Long.MAX_VALUE);
        x.row(3, 1, 3);
        x.put(3, 1, -5);
        ahead.accept(x);
        if (x.count(3) == 0) feed(x, "c 3");
        return x;
    }

    /**
     * Everything that an object answers, what can be read first, what can be read by changing it behind that. It takes
     * more than 512 calls, behind which the document promises nothing; this class goes on alike, and so must its twin.
     */
    private static List<Long> story(SeatsRound x) {
        List<Long> s = new ArrayList<>();
        whatCanBeRead(x, s);
        s.add((long) x.order(0));
        for (int i = 0; i < 5; i++) s.add((long) x.ordered(i));
        s.add((long) x.harm(0));
        s.add((long) x.harmed());
        int t = x.table(5, 9);
        s.add((long) t);
        for (int what = 0; what < 6; what++) s.add((long) x.ofTable(t, what));
        s.add((long) x.name());
        int keepers = x.count(1), names = x.count(0);
        for (int k = 0; k < keepers; k++) {
            for (int n = 0; n < names; n++) {
                s.add((long) x.half(n, k, (k + 1) % keepers));
                s.add((long) x.half(n, k, (k + 2) % keepers));
            }
        }
        for (int k = 0; k < keepers; k++) {
            for (int n = 0; n < names; n++) {
                s.add((long) x.write(k, n));
                s.add((long) x.read(k, n));
            }
            s.add((long) x.become(k, 0));
        }
        whatCanBeRead(x, s);
        return s;
    }

    private static void whatCanBeRead(SeatsRound x, List<Long> s) {
        for (int what = 0; what < 8; what++) s.add((long) x.count(what));
        for (int k = 0; k < 12; k++) {
            for (int what = 0; what < 8; what++) s.add((long) x.ofKeeper(k, what));
            for (int n = 0; n < 40; n++) for (int what = 0; what < 4; what++) s.add((long) x.onShelf(k, n, what));
        }
        for (int t = 0; t < 10; t++) {
            for (int what = 0; what < 6; what++) s.add((long) x.ofTable(t, what));
            for (int p = 0; p < 1000; p++) s.add((long) x.seat(t, p));
            for (int n = 0; n < 40; n++) for (int i = -1; i < 4; i++) s.add((long) x.keeperOf(t, n, i));
        }
        for (int n = 0; n < 40; n++) s.add((long) x.number(n, 77));
        for (int i = 0; i < 5; i++) s.add((long) x.ordered(i));
        for (int i = 0; i < 24; i++) s.add((long) x.trace(i));
        s.add((long) x.harmed());
        for (int shelf = 0; shelf < 6; shelf++) {
            for (int k = 0; k < 7; k++) s.add((long) x.taken(shelf, k));
            for (int i = 0; i < 60; i++) s.add(x.element(shelf, i));
            s.add((long) x.shift(shelf, 0, shelf, 0, 0));
        }
    }

    private static void refuses(String call, Consumer<SeatsRound> ahead, long want, ToLongFunction<SeatsRound> ask) {
        SeatsRound asked = busy(ahead), twin = busy(ahead);
        due(call, ask.applyAsLong(asked), want);
        List<Long> got = story(asked), wanted = story(twin);
        int unlike = 0;
        while (unlike < wanted.size() && got.get(unlike).equals(wanted.get(unlike))) unlike++;
        due(call + " changed something: what is alike", unlike, wanted.size());
        refusals++;
    }

    private static void refuses(String call, long want, ToLongFunction<SeatsRound> ask) {
        refuses(call, AS_IT_IS, want, ask);
    }

    /** An argument below the least and above the greatest one that is taken. */
    private static void outside(String call, int least, int most, long want, java.util.function.IntFunction<ToLongFunction<SeatsRound>> ask) {
        for (int v : new int[] {least - 1, most + 1, LEAST, MOST}) refuses(call + " " + v, want, ask.apply(v));
    }

    private static void namesAndKeepers() {
        promise = 2;
        outside("feed(n)", 1, 4, BAD, n -> x -> x.feed(n, 'a'));
        for (int left = 0; left < 4; left++) {
            int bytes = left + 1;
            refuses("feed of one byte more than is left", x -> feedUpTo(x, 80 - bytes + 1), FULL, x -> x.feed(bytes, 'a'));
        }
        promise = 3;
        refuses("name() of 7", x -> feed(x, "1234567"), BAD, SeatsRound::name);
        refuses("name() of 80", x -> feedUpTo(x, 80), BAD, SeatsRound::name);
        refuses("a 41st name()", RefusalTests::fillNames, FULL, SeatsRound::name);
        promise = 4;
        outside("number(name)", 0, 9, BAD, n -> x -> x.number(n, 0));
        promise = 5;
        outside("keeper(street)", 0, 5, BAD, s -> x -> x.keeper(s, 1));
        outside("keeper(strength)", 1, 8, BAD, s -> x -> x.keeper(0, s));
        refuses("a 13th keeper()", RefusalTests::fillKeepers, FULL, x -> x.keeper(0, 1));
        refuses("a 13th keeper(), and no street", RefusalTests::fillKeepers, BAD, x -> x.keeper(6, 1));
        promise = 6;
        outside("become(keeper)", 0, 6, BAD, k -> x -> x.become(k, 0));
        outside("become(kind)", 0, 6, BAD, kind -> x -> x.become(4, kind));
        promise = 7;
        outside("strength(keeper)", 0, 6, BAD, k -> x -> x.strength(k, 8));
        outside("strength(v)", 1, 8, BAD, v -> x -> x.strength(0, v));
        promise = 8;
        outside("ofKeeper(keeper)", 0, 6, VOID, k -> x -> x.ofKeeper(k, 0));
        outside("ofKeeper(what)", 0, 7, VOID, what -> x -> x.ofKeeper(0, what));
    }

    private static void feedUpTo(SeatsRound x, int many) {
        for (int had = x.count(3); had < many; had++) x.feed(1, '1');
    }

    private static void fillNames(SeatsRound x) {
        for (int i = 10; i < 40; i++) name(x, "n" + i);
    }

    private static void fillKeepers(SeatsRound x) {
        for (int k = 7; k < 12; k++) x.keeper(0, 1);
    }

    private static void fillTables(SeatsRound x) {
        for (int t = 3; t < 10; t++) table(x, "c 1", 1, t);
    }

    private static void tables() {
        promise = 9;
        for (int set : new int[] {0, 128, 129, LEAST, -1, MOST}) refuses("table(" + set + ")", BAD, x -> x.table(set, 0));
        refuses("an 11th table()", RefusalTests::fillTables, FULL, x -> x.table(1, 0));
        refuses("an 11th table() of none", RefusalTests::fillTables, BAD, x -> x.table(0, 0));
        promise = 10;
        outside("ofTable(table)", 0, 2, BAD, t -> x -> x.ofTable(t, 0));
        outside("ofTable(what)", 0, 5, BAD, what -> x -> x.ofTable(0, what));
        promise = 11;
        outside("seat(table)", 0, 2, BAD, t -> x -> x.seat(t, 0));
        outside("seat(place)", 0, 999, BAD, p -> x -> x.seat(0, p));
        int free = least(p -> busy(AS_IT_IS).seat(0, p) == NOT);
        refuses("seat() of a place that is free", NOT, x -> x.seat(0, free));
        promise = 12;
        outside("picked(table)", 0, 2, BAD, t -> x -> x.picked(t, 0, 0));
        outside("picked(number)", 0, 999, BAD, m -> x -> x.picked(0, m, 0));
        outside("picked(i)", 0, 5, BAD, i -> x -> x.picked(0, 0, i));
        promise = 13;
        outside("keeperOf(table)", 0, 2, BAD, t -> x -> x.keeperOf(t, 0, -1));
        outside("keeperOf(name)", 0, 9, BAD, n -> x -> x.keeperOf(0, n, -1));
        outside("keeperOf(i)", -1, 1, BAD, i -> x -> x.keeperOf(0, 0, i));
        promise = 14;
        outside("tooFew(table)", 0, 2, BAD, t -> x -> x.tooFew(t));
        promise = 15;
        outside("share(table)", 0, 2, BAD, t -> x -> x.share(t, 0, 0));
        outside("share(keeper)", 0, 6, BAD, k -> x -> x.share(0, k, 0));
        outside("share(what)", 0, 1, BAD, what -> x -> x.share(0, 0, what));
        promise = 16;
        outside("moves(table)", 0, 2, BAD, t -> x -> x.moves(t, 0, 0));
        outside("moves(other)", 0, 2, BAD, t -> x -> x.moves(0, t, 0));
        outside("moves(what)", 0, 1, BAD, what -> x -> x.moves(0, 1, what));
    }

    private static void parcels() {
        promise = 17;
        outside("knows(keeper)", 0, 6, VOID, k -> x -> x.knows(k, 1));
        outside("knows(table)", -1, 2, VOID, t -> x -> x.knows(0, t));
        promise = 18;
        outside("write(keeper)", 0, 6, BAD, k -> x -> x.write(k, 0));
        outside("write(name)", 0, 9, BAD, n -> x -> x.write(0, n));
        outside("write(name) by one that knows none", 0, 9, BAD, n -> x -> x.write(6, n));
        refuses("write() by one that knows none", STATE, x -> x.write(6, 0));
        refuses("write() by one that is asleep", STATE, x -> x.write(4, 0));
        refuses("write() by one that is fallen", STATE, x -> x.write(5, 0));
        promise = 19;
        outside("read(keeper)", 0, 6, BAD, k -> x -> x.read(k, 0));
        outside("read(name)", 0, 9, BAD, n -> x -> x.read(0, n));
        outside("read(name) by one that is asleep", 0, 9, BAD, n -> x -> x.read(4, n));
        refuses("read() by one that knows none", STATE, x -> x.read(6, 0));
        refuses("read() by one that is asleep", STATE, x -> x.read(4, 0));
        refuses("read() by one that is fallen", STATE, x -> x.read(5, 0));
        promise = 20;
        outside("onShelf(keeper)", 0, 6, BAD, k -> x -> x.onShelf(k, 0, 0));
        outside("onShelf(name)", 0, 9, BAD, n -> x -> x.onShelf(0, n, 0));
        outside("onShelf(what)", 0, 3, BAD, what -> x -> x.onShelf(0, 0, what));
        refuses("onShelf() of one that keeps nothing", NOT, x -> x.onShelf(4, 0, 2));
        promise = 21;
        outside("fall(keeper)", 0, 6, BAD, k -> x -> x.fall(k, 1));
        outside("fall(is)", 0, 1, BAD, is -> x -> x.fall(1, is));
        promise = 22;
        outside("half(name)", 0, 9, BAD, n -> x -> x.half(n, 1, 2));
        outside("half(from)", 0, 6, BAD, k -> x -> x.half(0, k, 2));
        outside("half(to)", 0, 6, BAD, k -> x -> x.half(0, 1, k));
        refuses("half() to itself", BAD, x -> x.half(0, 1, 1));
        refuses("half() of what it has not", NOT, x -> x.half(9, 1, 2));
        refuses("half() of what one that fell has not", x -> x.fall(1, 1), NOT, x -> x.half(0, 1, 2));
        promise = 23;
        outside("mend(table)", 0, 2, BAD, t -> x -> x.mend(t));
        promise = 24;
        outside("trees(keeper)", 0, 6, BAD, k -> x -> x.trees(k, 0, 0));
        outside("trees(other)", 0, 6, BAD, k -> x -> x.trees(0, k, 0));
        outside("trees(what)", 0, 1, BAD, what -> x -> x.trees(0, 1, what));
        refuses("trees() of one and the same", BAD, x -> x.trees(2, 2, 0));
        promise = 25;
        outside("noon(table)", 0, 2, BAD, t -> x -> x.noon(t, 1, 1));
        outside("noon(asks)", 0, 9999, BAD, asks -> x -> x.noon(0, asks, 1));
        outside("noon(most)", 0, 9999, BAD, most -> x -> x.noon(0, 1, most));
        refuses("noon() for which all are too few", NOT, x -> x.noon(0, 7, 1));
        promise = 26;
        outside("lies(keeper)", 0, 6, BAD, k -> x -> x.lies(k, 0, 1, 0));
        outside("lies(late)", 0, 7, BAD, late -> x -> x.lies(0, late, 7, 0));
        outside("lies(late) of 99", 0, 99, BAD, late -> x -> x.lies(0, late, 99, 0));
        outside("lies(turns)", 1, 99, BAD, turns -> x -> x.lies(0, 0, turns, 0));
        outside("lies(what)", 0, 1, BAD, what -> x -> x.lies(0, 0, 1, what));
    }

    private static void ordersAndHarm() {
        promise = 27;
        outside("comes(keeper)", 0, 6, BAD, k -> x -> x.comes(k));
        refuses("comes() of one that is told", BAD, x -> x.comes(6));
        refuses("a sixth comes()", RefusalTests::fillTold, FULL, x -> x.comes(0));
        refuses("a sixth comes() of one that is told", RefusalTests::fillTold, BAD, x -> x.comes(4));
        promise = 28;
        outside("order(table)", 0, 2, BAD, t -> x -> x.order(t));
        refuses("order() of none", x -> x.order(0), BAD, x -> x.order(0));
        refuses("order() that leaves nobody", x -> onlyOneGoes(x), NOT, x -> x.order(1));
        promise = 29;
        outside("ordered(i)", 0, 1, BAD, i -> x -> x.ordered(i));
        promise = 30;
        refuses("a seventh turning()", RefusalTests::fillTurnings, FULL, x -> x.turning(0));
        promise = 31;
        outside("harm(table)", 0, 2, BAD, t -> x -> x.harm(t));
        refuses("harm() of none", x -> x.harm(0), BAD, x -> x.harm(0));
        promise = 32;
        due("harmed() of a new object", new SeatsRound().harmed(), BAD);
    }

    private static void fillTold(SeatsRound x) {
        for (int k = 3; k < 6; k++) x.comes(k);
    }

    private static void onlyOneGoes(SeatsRound x) {
        x.order(0);
        x.comes(1);
    }

    private static void fillTurnings(SeatsRound x) {
        for (int i = 2; i < 6; i++) x.turning(i);
    }

    private static void actsAndRows() {
        promise = 34;
        outside("trace(i)", 0, 7, BAD, i -> x -> x.trace(i));
        refuses("trace(24)", BAD, x -> x.trace(24));
        promise = 35;
        outside("keep(shelf)", 0, 5, BAD, shelf -> x -> x.keep(shelf, 0));
        outside("keep(keeper)", -1, 6, BAD, k -> x -> x.keep(0, k));
        promise = 36;
        outside("row(shelf)", 0, 5, BAD, shelf -> x -> x.row(shelf, 0, 1));
        outside("row(sort)", 0, 4, BAD, sort -> x -> x.row(0, sort, 1));
        for (int n : new int[] {61, MOST}) refuses("row() of " + n, BAD, x -> x.row(0, 0, n));
        for (int n : new int[] {-1, LEAST}) {
            refuses("row() of " + n, BELOW, x -> x.row(0, 0, n));
            refuses("row() of " + n + " of no sort", BAD, x -> x.row(0, 5, n));
        }
        promise = 37;
        outside("put(shelf)", 0, 5, BAD, shelf -> x -> x.put(shelf, 0, 1));
        outside("put(i)", 0, 4, NO_PLACE, i -> x -> x.put(0, i, 1));
        outside("put(i) to nothing", 0, 0, NOTHING, i -> x -> x.put(4, i, 1));
        outside("put(i) to a KEEPER", 0, 0, OTHER, i -> x -> x.put(1, i, 1));
        promise = 38;
        outside("element(shelf)", 0, 5, Long.MIN_VALUE, shelf -> x -> x.element(shelf, 0));
        outside("element(i)", 0, 4, Long.MIN_VALUE, i -> x -> x.element(0, i));
        refuses("element() of nothing", Long.MIN_VALUE, x -> x.element(4, 0));
        refuses("element() of a KEEPER", Long.MIN_VALUE, x -> x.element(1, 0));
        promise = 39;
        outside("shift(shelf)", 0, 5, BAD, shelf -> x -> x.shift(shelf, 0, 0, 1, 1));
        outside("shift(other)", 0, 5, BAD, shelf -> x -> x.shift(0, 0, shelf, 1, 1));
        outside("shift(i)", 0, 3, NO_PLACE, i -> x -> x.shift(0, i, 0, 0, 2));
        outside("shift(j)", 0, 3, NO_PLACE, j -> x -> x.shift(0, 0, 0, j, 2));
        outside("shift(n)", 0, 4, NO_PLACE, n -> x -> x.shift(0, 0, 0, 1, n));
        refuses("shift() from nothing", NOTHING, x -> x.shift(4, 0, 0, 0, 1));
        refuses("shift() to nothing", NOTHING, x -> x.shift(0, 0, 4, 0, 1));
        refuses("shift() of a KEEPER", OTHER, x -> x.shift(1, 0, 0, 0, 1));
        refuses("shift() to a KEEPER", OTHER, x -> x.shift(0, 0, 1, 0, 1));
        refuses("shift() of unlike sorts", OTHER, x -> x.shift(0, 0, 3, 0, 1));
        promise = 40;
        outside("taken(shelf)", 0, 5, BAD, shelf -> x -> x.taken(shelf, 0));
        outside("taken(k)", 0, 6, BAD, k -> x -> x.taken(1, k));
        refuses("taken() of nothing", NOTHING, x -> x.taken(4, 0));
        refuses("taken() of a ROW", OTHER, x -> x.taken(0, 0));
        refuses("taken() for another KIND", OTHER, x -> x.taken(1, 4));
        promise = 41;
        outside("names(shelf)", 0, 5, BAD, shelf -> x -> x.names(shelf, 0, 1));
        outside("names(n)", 1, 20, BAD, n -> x -> x.names(0, 0, n));
        refuses("names() of a KEEPER", OTHER, x -> x.names(1, 0, 1));
        refuses("names() of a ROW of longs", OTHER, x -> x.names(2, 0, 1));
        refuses("names() of a ROW of shorts", OTHER, x -> x.names(3, 0, 1));
        promise = 42;
        outside("count(what)", 0, 7, BAD, what -> x -> x.count(what));
    }

    /** "BAD (-1): no such number": in a house that is full the greatest numbers are there, and one more is not. */
    private static void fullHouse() {
        SeatsRound x = new SeatsRound();
        for (int k = 0; k < 12; k++) x.keeper(k % 6, 1 + k % 8);
        names(x, 40);
        for (int t = 0; t < 10; t++) table(x, "c 1", 2048, t);
        for (int k = 0; k < 12; k++) x.knows(k, 9);
        int seat = least(p -> seated(9, 0, 0, 0, 0, 0, 0, 0, 0, 0, 0, 0, 4)[p] == 11);
        pair(4, "number", number("n39", 3), x.number(39, 3), BAD, x.number(40, 3));
        pair(6, "become", 0, x.become(11, 0), BAD, x.become(12, 0));
        pair(7, "strength", 4, x.strength(11, 4), BAD, x.strength(12, 4));
        pair(8, "ofKeeper", 5, x.ofKeeper(11, 1), VOID, x.ofKeeper(12, 1));
        pair(9, "table", FULL, x.table(2048, 0), BAD, x.table(4096, 0));
        pair(10, "ofTable", 16, x.ofTable(9, 1), BAD, x.ofTable(10, 1));
        pair(11, "seat", 11, x.seat(9, seat), BAD, x.seat(10, seat));
        pair(12, "picked", 11, x.picked(9, 999, 0), BAD, x.picked(10, 999, 0));
        pair(13, "keeperOf a table", 11, x.keeperOf(9, 39, 0), BAD, x.keeperOf(10, 39, 0));
        pair(13, "keeperOf a name", 1, x.keeperOf(9, 39, -1), BAD, x.keeperOf(9, 40, -1));
        pair(14, "tooFew", 0, x.tooFew(9), BAD, x.tooFew(10));
        pair(15, "share by a table", 40, x.share(9, 11, 0), BAD, x.share(10, 11, 0));
        pair(15, "share of a keeper", 1000, x.share(9, 11, 1), BAD, x.share(9, 12, 1));
        pair(16, "moves from", 0, x.moves(9, 0, 0), BAD, x.moves(10, 0, 0));
        pair(16, "moves to", 0, x.moves(0, 9, 0), BAD, x.moves(0, 10, 0));
        pair(17, "knows a table", 9, x.knows(0, 9), VOID, x.knows(0, 10));
        pair(17, "a keeper knows", 9, x.knows(11, 9), VOID, x.knows(12, 9));
        pair(18, "write by a keeper", 1, x.write(11, 39), BAD, x.write(12, 39));
        pair(18, "write a name", 1, x.write(0, 39), BAD, x.write(0, 40));
        pair(19, "read by a keeper", 2, x.read(11, 39), BAD, x.read(12, 39));
        pair(19, "read a name", 2, x.read(0, 39), BAD, x.read(0, 40));
        pair(20, "onShelf of a keeper", 2, x.onShelf(11, 39, 0), BAD, x.onShelf(12, 39, 0));
        pair(20, "onShelf of a name", 2, x.onShelf(11, 39, 0), BAD, x.onShelf(11, 40, 0));
        pair(22, "half of a name", 1, x.half(39, 11, 0), BAD, x.half(40, 11, 0));
        pair(22, "half from", 2, x.half(39, 11, 0), BAD, x.half(39, 12, 0));
        pair(22, "half to", NOT, x.half(39, 0, 11), BAD, x.half(39, 11, 12));
        pair(24, "trees", 7, x.trees(11, 0, 0), BAD, x.trees(12, 0, 0));
        pair(24, "trees with", 1, x.trees(0, 11, 1), BAD, x.trees(0, 12, 1));
        pair(21, "fall", 0, x.fall(11, 1), BAD, x.fall(12, 1));
        pair(21, "fall", 1, x.fall(11, 0), BAD, x.fall(12, 0));
        pair(23, "mend", 0, x.mend(9), BAD, x.mend(10));
        pair(25, "noon", 1, x.noon(9, 1, 1), BAD, x.noon(10, 1, 1));
        pair(26, "lies", 4, x.lies(11, 0, 1, 0), BAD, x.lies(12, 0, 1, 0));
        pair(27, "comes", 1, x.comes(11), BAD, x.comes(12));
        pair(28, "order", NOT, x.order(9), BAD, x.order(10));
        x.turning(1);
        pair(31, "harm", 0, x.harm(9), BAD, x.harm(10));
        pair(33, "act", 31, x.act(11, 0, 20), 0, x.act(12, 0, 20));
        pair(35, "keep", 1, x.keep(5, 11), BAD, x.keep(5, 12));
    }

    private static void pair(int itsPromise, String call, long wantGreatest, long gotGreatest, long wantMore, long gotMore) {
        promise = itsPromise;
        due(call + " with the greatest number", gotGreatest, wantGreatest);
        due(call + " with one more", gotMore, wantMore);
    }
}
