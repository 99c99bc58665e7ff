import java.util.ArrayList;
import java.util.List;

/** Sentences on acts, the trace, the host's shelves and names from a row: promises 33 to 42. */
final class ActSentences extends Desk {
    static void all() {
        acts();
        shelves();
        namesAndCounts();
    }

    private static void acts() {
        SentenceTests.sentence(33, "ACTS of KEEPERS with x (an int that wraps): 0 finds, 1 keeps, 2 moves, 3 tells; n its number, s its STRENGTH (not doubled).", ActSentences::actsThatWrap);
        SentenceTests.sentence(33, "FINDS (an interface of KEEPER): 1 finds: x + n. KEEPER: 10 keeps: finds(x) * 2. 11 moves: x ^ n. TELLS (of KEEPER): 2 tells: keeps(x) - moves(1).", () -> bodiesOf(0));
        SentenceTests.sentence(33, "STRONG: 20 finds: super.finds(x) + s.", () -> bodiesOf(1));
        SentenceTests.sentence(33, "COMING: 30 moves: super.moves(x) * 3.", () -> bodiesOf(2));
        SentenceTests.sentence(33, "GOING: 40 keeps: -super.keeps(x).", () -> bodiesOf(3));
        SentenceTests.sentence(33, "ASLEEP: 50 tells: super.tells(x) ^ 9.", () -> bodiesOf(4));
        SentenceTests.sentence(33, "MISTAKEN: 60 finds: super.finds(x + 1). 61 moves: super.moves(x) - finds(2).", () -> bodiesOf(5));
        SentenceTests.sentence(33, "FULL: 70 keeps: super.keeps(x) + super.moves(x). 71 finds: super.finds(x) * 2.", () -> bodiesOf(6));
        SentenceTests.sentence(33, "finds(..) and so on: the body of its own KIND, or of the next KIND above that has one; super: from the KIND above the body's on.", ActSentences::bodiesOfKinds);
        SentenceTests.sentence(33, "An ACT (0 .. 3) of a KEEPER with x. 0, and no TRACE then: no such KEEPER, ACT.", ActSentences::noSuchAct);
        SentenceTests.sentence(34, "numbers of the bodies that ran in the latest act(), as they began; the first 24 are kept.", ActSentences::latestTrace);
        SentenceTests.sentence(34, "THE TRACE's i-th body. BAD.", ActSentences::traceRefused);
    }

    private static void shelves() {
        SentenceTests.sentence(35, "SHELVES of the host 0 .. 5 (ROWS for short) each hold nothing (at first), a KEEPER, or a ROW", ActSentences::sixShelves);
        SentenceTests.sentence(35, "A SHELF of the host holds nothing (keeper -1), or a KEEPER: 1. BAD.", ActSentences::keepRefused);
        SentenceTests.sentence(36, "of 0 bytes, 1 shorts, 2 ints, 3 longs, 4 booleans, of 0 .. 60 elements, 0 at first (false)", ActSentences::sortsAndSizes);
        SentenceTests.sentence(36, "-14 a size below 0.", ActSentences::sizeBelow0);
        SentenceTests.sentence(36, "It holds a ROW: 1. BAD (sort, n above 60); -14.", ActSentences::rowRefused);
        SentenceTests.sentence(37, "what is put in keeps its lowest bits (a boolean: whether it is not 0; 1 or 0).", ActSentences::lowestBits);
        SentenceTests.sentence(37, "-11 nothing is there where something is wanted; -12 it is of another kind; -13 a place that is not there", ActSentences::hostsRefusals);
        SentenceTests.sentence(37, "Element i of a ROW becomes v: 1. BAD, -11, -12, -13.", ActSentences::putRefused);
        SentenceTests.sentence(38, "Element i of a ROW; Long.MIN_VALUE: BAD, -11 to -13.", ActSentences::elementRefused);
        SentenceTests.sentence(39, "n elements of a ROW from i on come to another one (or the same) from j on, as they all were before: n.", ActSentences::shifted);
        SentenceTests.sentence(39, "BAD, -11 (either), -12 (no ROWS, or of unlike sorts), -13.", ActSentences::shiftRefused);
        SentenceTests.sentence(40, "0 KEEPER; 1 STRONG under KEEPER; 2 COMING under KEEPER; 3 GOING under KEEPER; 4 ASLEEP under KEEPER; 5 MISTAKEN under KEEPER; 6 FULL under STRONG", ActSentences::kindsUnderKinds);
        SentenceTests.sentence(40, "What a SHELF holds, taken for a KEEPER of KIND k (0 .. 6), or under it: its KIND. BAD, -11, -12.", ActSentences::takenRefused);
    }

    private static void namesAndCounts() {
        SentenceTests.sentence(41, "NAMES FROM A ROW of bytes, from a place on: each a byte that tells its size (1 to 6), and as many bytes: n of them", ActSentences::namesOfSizes);
        SentenceTests.sentence(41, "one that there is already is passed over", ActSentences::passedOver);
        SentenceTests.sentence(41, "it ends where the row is missing, ends (within a NAME, too), has no size, or there is no room: those ahead are there.", ActSentences::whereItEnds);
        SentenceTests.sentence(41, "NAMES FROM A ROW, from place i on, n (1 .. 20) of them: how many came (new ones).", ActSentences::upTo20);
        SentenceTests.sentence(41, "BAD, -12 (no ROW of bytes; a SHELF that holds nothing is missing).", ActSentences::namesRefused);
        SentenceTests.sentence(42, "4 copies on all SHELVES, 5 KEPT ones, 6 writings, 7 bodies that ran in the latest act(). BAD.", ActSentences::counted);
    }

    // The kinds of the document as kinds of Java: what Java does with super and overriding is what the document tells.

    private static final List<Integer> RAN = new ArrayList<>();

    private interface Finds {
        int number();

        default int finds(int x) {
            RAN.add(1);
            return x + number();
        }
    }

    private interface Tells {
        int keeps(int x);

        int moves(int x);

        default int tells(int x) {
            RAN.add(2);
            return keeps(x) - moves(1);
        }
    }

    private static class Keeper implements Finds, Tells {
        final int n, s;

        Keeper(int n, int s) {
            this.n = n;
            this.s = s;
        }

        public int number() {
            return n;
        }

        public int keeps(int x) {
            RAN.add(10);
            return finds(x) * 2;
        }

        public int moves(int x) {
            RAN.add(11);
            return x ^ n;
        }
    }

    private static class Strong extends Keeper {
        Strong(int n, int s) {
            super(n, s);
        }

        public int finds(int x) {
            RAN.add(20);
            return super.finds(x) + s;
        }
    }

    private static final class Coming extends Keeper {
        Coming(int n, int s) {
            super(n, s);
        }

        public int moves(int x) {
            RAN.add(30);
            return super.moves(x) * 3;
        }
    }

    private static final class Going extends Keeper {
        Going(int n, int s) {
            super(n, s);
        }

        public int keeps(int x) {
            RAN.add(40);
            return -super.keeps(x);
        }
    }

    private static final class Asleep extends Keeper {
        Asleep(int n, int s) {
            super(n, s);
        }

        public int tells(int x) {
            RAN.add(50);
            return super.tells(x) ^ 9;
        }
    }

    private static final class Mistaken extends Keeper {
        Mistaken(int n, int s) {
            super(n, s);
        }

        public int finds(int x) {
            RAN.add(60);
            return super.finds(x + 1);
        }

        public int moves(int x) {
            RAN.add(61);
            return super.moves(x) - finds(2);
        }
    }

    private static final class Full extends Strong {
        Full(int n, int s) {
            super(n, s);
        }

        public int keeps(int x) {
            RAN.add(70);
            return super.keeps(x) + super.moves(x);
        }

        public int finds(int x) {
            RAN.add(71);
            return super.finds(x) * 2;
        }
    }

    private static Keeper body(int kind, int n, int s) {
        switch (kind) {
            case 0: return new Keeper(n, s);
            case 1: return new Strong(n, s);
            case 2: return new Coming(n, s);
            case 3: return new Going(n, s);
            case 4: return new Asleep(n, s);
            case 5: return new Mistaken(n, s);
            default: return new Full(n, s);
        }
    }

    private static int acted(Keeper k, int act, int x) {
        RAN.clear();
        return act == 0 ? k.finds(x) : act == 1 ? k.keeps(x) : act == 2 ? k.moves(x) : k.tells(x);
    }

    private static void actsThatWrap() {
        for (int n = 0; n < 12; n += 11) {
            SeatsRound x = house(0, 0, 0, 0, 0, 0, 0, 0, 0, 0, 0, 0);
            for (int s = 1; s < 9; s += 7) {
                x.strength(n, s);
                for (int kind = 0; kind < 7; kind++) {
                    x.become(n, kind);
                    for (int act = 0; act < 4; act++) {
                        for (int v : new int[] {LEAST, MOST, 0, -1}) due("KIND " + kind + ", act(" + n + ", " + act + ", " + v + ")", x.act(n, act, v), acted(body(kind, n, s), act, v));
                    }
                }
            }
        }
    }

    private static void bodiesOfKinds() {
        SeatsRound x = house(0, 0, 0);
        x.strength(2, 5);
        for (int kind = 0; kind < 7; kind++) {
            x.become(2, kind);
            for (int act = 0; act < 4; act++) {
                due("KIND " + kind + ", act(2, " + act + ", 100)", x.act(2, act, 100), acted(body(kind, 2, 5), act, 100));
                due("bodies", x.count(7), RAN.size());
                for (int i = 0; i < RAN.size(); i++) due("trace(" + i + ")", x.trace(i), RAN.get(i));
                due("no more", x.trace(RAN.size()), BAD);
            }
        }
    }

    private static void bodiesOf(int kind) {
        for (int n : new int[] {0, 11}) {
            for (int s : new int[] {1, 8}) {
                SeatsRound x = new SeatsRound();
                for (int k = 0; k < 12; k++) x.keeper(0, s);
                x.become(n, kind);
                for (int act = 0; act < 4; act++) {
                    for (int v : new int[] {MOST, MOST - n, LEAST, 1 << 30, -1}) {
                        due("act(" + n + ", " + act + ", " + v + ")", x.act(n, act, v), acted(body(kind, n, s), act, v));
                        for (int i = 0; i <= RAN.size(); i++) due("trace(" + i + ")", x.trace(i), i < RAN.size() ? RAN.get(i) : BAD);
                    }
                }
            }
        }
    }

    private static void noSuchAct() {
        SeatsRound x = house(0, 0);
        due("the least ACT", x.act(1, 0, 7), 8);
        due("the greatest ACT", x.act(1, 3, 7), 16 - 0);
        for (int act : new int[] {-1, 4, LEAST, MOST}) {
            x.act(1, 3, 7);
            due("act(1, " + act + ", 7)", x.act(1, act, 7), 0);
            due("no TRACE", x.trace(0), BAD);
            due("no bodies", x.count(7), 0);
        }
        for (int k : new int[] {-1, 2, LEAST, MOST}) {
            x.act(1, 3, 7);
            due("act(" + k + ", 0, 7)", x.act(k, 0, 7), 0);
            due("no TRACE", x.trace(0), BAD);
            due("no bodies", x.count(7), 0);
        }
    }

    private static void latestTrace() {
        SeatsRound x = house(0);
        due("none yet", x.trace(0), BAD);
        x.become(0, 6);
        x.act(0, 3, 1);
        int[] longest = {2, 70, 10, 71, 20, 1, 11, 11};
        for (int i = 0; i < 8; i++) due("the longest there is", x.trace(i), longest[i]);
        due("bodies", x.count(7), 8);
        x.become(0, 0);
        due("it is of then", x.trace(1), 70);
        x.act(0, 2, 1);
        due("the latest", x.trace(0), 11);
        due("nothing is left of the one ahead", x.trace(1), BAD);
        due("bodies", x.count(7), 1);
    }

    private static void traceRefused() {
        SeatsRound x = house(0);
        x.act(0, 3, 1);
        for (int i : new int[] {-1, 4, 23, 24, LEAST, MOST}) due("trace(" + i + ")", x.trace(i), BAD);
        due("the first", x.trace(0), 2);
        due("the last", x.trace(3), 11);
    }

    private static void sixShelves() {
        SeatsRound x = house(0);
        for (int shelf = 0; shelf < 6; shelf++) {
            due("nothing at first", x.put(shelf, 0, 1), NOTHING);
            due("nothing at first", x.taken(shelf, 0), NOTHING);
        }
        for (int shelf = 0; shelf < 6; shelf++) {
            due("a ROW", x.row(shelf, 3, 1), 1);
            due("its element", x.put(shelf, 0, shelf + 1), 1);
        }
        for (int shelf = 0; shelf < 6; shelf++) due("each its own", x.element(shelf, 0), shelf + 1);
        due("a KEEPER", x.keep(5, 0), 1);
        due("no ROW", x.put(5, 0, 1), OTHER);
        due("its KIND", x.taken(5, 0), 0);
        due("the others stay", x.element(4, 0), 5);
        due("a ROW again", x.row(5, 3, 1), 1);
        due("no KEEPER", x.taken(5, 0), OTHER);
        due("nothing", x.keep(5, -1), 1);
        due("nothing", x.put(5, 0, 1), NOTHING);
    }

    private static void keepRefused() {
        SeatsRound x = house(0, 0);
        due("the last KEEPER", x.keep(0, 1), 1);
        x.become(1, 3);
        due("it is the KEEPER, not what it was", x.taken(0, 3), 3);
        for (int k : new int[] {-2, 2, LEAST, MOST}) due("keep(0, " + k + ")", x.keep(0, k), BAD);
        for (int shelf : new int[] {-1, 6, LEAST, MOST}) {
            due("keep(" + shelf + ", 0)", x.keep(shelf, 0), BAD);
            due("keep(" + shelf + ", -1)", x.keep(shelf, -1), BAD);
        }
        due("it stays", x.taken(0, 0), 3);
        due("nothing on one that holds nothing", x.keep(5, -1), 1);
        due("nothing", x.taken(5, 0), NOTHING);
        due("nobody is there to hold", new SeatsRound().keep(0, 0), BAD);
    }

    private static void sortsAndSizes() {
        SeatsRound x = new SeatsRound();
        for (int sort = 0; sort < 5; sort++) {
            due("row(0, " + sort + ", 60)", x.row(0, sort, 60), 1);
            for (int i = 0; i < 60; i++) due("element(0, " + i + ")", x.element(0, i), 0);
            due("no 61st", x.element(0, 60), Long.MIN_VALUE);
            x.put(0, 0, 1);
            x.put(0, 59, 1);
            due("row(1, " + sort + ", 0)", x.row(1, sort, 0), 1);
            due("no element", x.put(1, 0, 1), NO_PLACE);
            due("row(1, " + sort + ", 1)", x.row(1, sort, 1), 1);
            due("one element", x.put(1, 0, 1), 1);
            due("no second", x.put(1, 1, 1), NO_PLACE);
        }
        x.row(0, 4, 60);
        due("0 at first, again", x.element(0, 0) + x.element(0, 59), 0);
    }

    private static void sizeBelow0() {
        SeatsRound x = new SeatsRound();
        for (int n : new int[] {-1, -60, LEAST}) due("row(0, 0, " + n + ")", x.row(0, 0, n), BELOW);
        due("nothing came", x.put(0, 0, 1), NOTHING);
        x.row(0, 3, 2);
        x.put(0, 1, 5);
        due("row(0, 0, -1)", x.row(0, 0, -1), BELOW);
        due("what was there stays", x.element(0, 1), 5);
    }

    private static void rowRefused() {
        SeatsRound x = new SeatsRound();
        for (int n : new int[] {61, 1000, MOST}) due("row(0, 0, " + n + ")", x.row(0, 0, n), BAD);
        for (int sort : new int[] {-1, 5, LEAST, MOST}) {
            due("row(0, " + sort + ", 1)", x.row(0, sort, 1), BAD);
            due("row(0, " + sort + ", -1): BAD is named first", x.row(0, sort, -1), BAD);
        }
        for (int shelf : new int[] {-1, 6, LEAST, MOST}) {
            due("row(" + shelf + ", 0, 1)", x.row(shelf, 0, 1), BAD);
            due("row(" + shelf + ", 0, -1): BAD is named first", x.row(shelf, 0, -1), BAD);
        }
        due("nothing came", x.taken(0, 0), NOTHING);
    }

    private static void lowestBits() {
        long[] put = {127, 128, 255, 256, -129, 32767, 32768, 65536, MOST, MOST + 1L, 1L << 32, Long.MAX_VALUE, Long.MIN_VALUE, -1, 0, 1};
        SeatsRound x = new SeatsRound();
        for (int sort = 0; sort < 5; sort++) {
            x.row(sort, sort, 3);
            for (long v : put) {
                due("put(" + sort + ", 1, " + v + ")", x.put(sort, 1, v), 1);
                long[] want = {(byte) v, (short) v, (int) v, v, v == 0 ? 0 : 1};
                due("element of sort " + sort, x.element(sort, 1), want[sort]);
            }
            due("the one ahead stays", x.element(sort, 0), 0);
            due("the one behind stays", x.element(sort, 2), 0);
        }
    }

    private static void hostsRefusals() {
        SeatsRound x = house(0);
        x.keep(1, 0);
        x.row(2, 0, 2);
        due("put where nothing is", x.put(0, 0, 1), NOTHING);
        due("put to a KEEPER", x.put(1, 0, 1), OTHER);
        due("put to no place", x.put(2, 2, 1), NO_PLACE);
        due("taken where nothing is", x.taken(0, 0), NOTHING);
        due("taken of a ROW", x.taken(2, 0), OTHER);
        due("taken for another KIND", x.taken(1, 1), OTHER);
        due("shift where nothing is", x.shift(0, 0, 2, 0, 1), NOTHING);
        due("shift of a KEEPER", x.shift(1, 0, 2, 0, 1), OTHER);
        due("shift from no place", x.shift(2, 2, 2, 0, 1), NO_PLACE);
        due("names of a KEEPER", x.names(1, 0, 1), OTHER);
    }

    private static void putRefused() {
        SeatsRound x = house(0);
        x.row(0, 3, 60);
        due("the first place", x.put(0, 0, 8), 1);
        due("the last place", x.put(0, 59, 9), 1);
        for (int i : new int[] {-1, 60, LEAST, MOST}) {
            due("put(0, " + i + ", 1)", x.put(0, i, 1), NO_PLACE);
            due("nothing there: -11 is named first", x.put(1, i, 1), NOTHING);
            for (int shelf : new int[] {-1, 6, LEAST, MOST}) due("no SHELF: BAD is named first", x.put(shelf, i, 1), BAD);
        }
        x.keep(1, 0);
        for (int i : new int[] {-1, 60, LEAST, MOST}) due("a KEEPER: -12 is named first", x.put(1, i, 1), OTHER);
        due("the first stays", x.element(0, 0), 8);
        due("the last stays", x.element(0, 59), 9);
    }

    private static void elementRefused() {
        SeatsRound x = house(0);
        long no = Long.MIN_VALUE;
        x.row(0, 3, 60);
        x.put(0, 0, -8);
        x.put(0, 59, 9);
        due("the first place", x.element(0, 0), -8);
        due("the last place", x.element(0, 59), 9);
        for (int i : new int[] {-1, 60, LEAST, MOST}) due("element(0, " + i + ")", x.element(0, i), no);
        for (int shelf : new int[] {-1, 6, LEAST, MOST}) due("element(" + shelf + ", 0)", x.element(shelf, 0), no);
        due("nothing is there", x.element(1, 0), no);
        x.keep(1, 0);
        due("a KEEPER", x.element(1, 0), no);
        x.put(0, 0, no);
        due("the least long", x.element(0, 0), no);
        x.row(2, 0, 0);
        due("a ROW of none", x.element(2, 0), no);
    }

    private static void dueRow(SeatsRound x, int shelf, int... want) {
        for (int i = 0; i < want.length; i++) due("element(" + shelf + ", " + i + ")", x.element(shelf, i), want[i]);
        due("no more", x.element(shelf, want.length), Long.MIN_VALUE);
    }

    private static void shifted() {
        SeatsRound x = new SeatsRound();
        fill(x, 0, 1, 2, 3, 4, 5);
        fill(x, 1, 0, 0, 0);
        due("to the end", x.shift(0, 3, 1, 1, 2), 2);
        dueRow(x, 1, 0, 4, 5);
        due("all", x.shift(1, 0, 0, 0, 3), 3);
        dueRow(x, 0, 0, 4, 5, 4, 5);
        fill(x, 0, 1, 2, 3, 4, 5);
        due("the same, up", x.shift(0, 0, 0, 1, 4), 4);
        dueRow(x, 0, 1, 1, 2, 3, 4);
        fill(x, 0, 1, 2, 3, 4, 5);
        due("the same, down", x.shift(0, 1, 0, 0, 4), 4);
        dueRow(x, 0, 2, 3, 4, 5, 5);
        due("the same place", x.shift(0, 0, 0, 0, 5), 5);
        dueRow(x, 0, 2, 3, 4, 5, 5);
        due("none", x.shift(0, 2, 1, 1, 0), 0);
        due("none behind the last", x.shift(0, 5, 1, 3, 0), 0);
        dueRow(x, 1, 0, 4, 5);
        for (int sort = 0; sort < 5; sort++) {
            x.row(2, sort, 60);
            x.row(3, sort, 60);
            x.put(2, 0, -1);
            x.put(2, 59, 1);
            due("60 of sort " + sort, x.shift(2, 0, 3, 0, 60), 60);
            due("the first", x.element(3, 0), sort == 4 ? 1 : -1);
            due("the last", x.element(3, 59), 1);
        }
    }

    private static void shiftRefused() {
        SeatsRound x = house(0);
        fill(x, 0, 1, 2, 3, 4, 5);
        fill(x, 1, 6, 7, 8);
        x.row(2, 1, 3);
        x.keep(3, 0);
        int[][] places = {{-1, 0, 1}, {0, -1, 1}, {5, 0, 1}, {0, 3, 1}, {3, 0, 3}, {0, 1, 3}, {0, 0, 4}, {6, 0, 0}, {0, 4, 0}, {0, 0, -1},
            {LEAST, 0, 1}, {0, LEAST, 1}, {MOST, 0, 1}, {0, MOST, 1}, {0, 0, MOST}, {0, 0, LEAST}, {1, 1, MOST}, {MOST, MOST, MOST}, {-1, 0, 0}, {0, -1, 0}};
        for (int[] p : places) {
            String call = ", " + p[0] + ", .., " + p[1] + ", " + p[2] + ")";
            due("shift(0" + call, x.shift(0, p[0], 1, p[1], p[2]), NO_PLACE);
            due("unlike sorts: -12 is named first; shift(0" + call, x.shift(0, p[0], 2, p[1], p[2]), OTHER);
            due("no ROW: -12 is named first; shift(0" + call, x.shift(0, p[0], 3, p[1], p[2]), OTHER);
            due("nothing: -11 is named first; shift(0" + call, x.shift(0, p[0], 4, p[1], p[2]), NOTHING);
            due("no SHELF: BAD is named first; shift(0" + call, x.shift(0, p[0], 6, p[1], p[2]), BAD);
        }
        due("a KEEPER", x.shift(3, 0, 0, 0, 1), OTHER);
        due("two KEEPERS", x.shift(3, 0, 3, 0, 0), OTHER);
        due("a KEEPER to nothing", x.shift(3, 0, 4, 0, 1), NOTHING);
        due("nothing to a KEEPER", x.shift(4, 0, 3, 0, 1), NOTHING);
        due("nothing to nothing", x.shift(4, 0, 4, 0, 0), NOTHING);
        due("nothing to no SHELF", x.shift(4, 0, -1, 0, 1), BAD);
        due("no SHELF to nothing", x.shift(6, 0, 4, 0, 1), BAD);
        dueRow(x, 0, 1, 2, 3, 4, 5);
        dueRow(x, 1, 6, 7, 8);
    }

    private static void kindsUnderKinds() {
        SeatsRound x = house(0);
        x.keep(0, 0);
        String[] under = {"0", "01", "02", "03", "04", "05", "016"};
        for (int kind = 0; kind < 7; kind++) {
            x.become(0, kind);
            for (int k = 0; k < 7; k++) due("KIND " + kind + " taken for " + k, x.taken(0, k), under[kind].indexOf('0' + k) >= 0 ? kind : OTHER);
        }
    }

    private static void takenRefused() {
        SeatsRound x = house(0);
        x.keep(5, 0);
        x.row(1, 0, 1);
        due("the least", x.taken(5, 0), 0);
        for (int k : new int[] {-1, 7, LEAST, MOST}) {
            due("taken(5, " + k + ")", x.taken(5, k), BAD);
            due("of nothing: BAD is named first", x.taken(0, k), BAD);
            due("of a ROW: BAD is named first", x.taken(1, k), BAD);
        }
        for (int shelf : new int[] {-1, 6, LEAST, MOST}) due("taken(" + shelf + ", 0)", x.taken(shelf, 0), BAD);
        for (int k = 0; k < 7; k++) {
            due("of nothing", x.taken(0, k), NOTHING);
            due("of a ROW", x.taken(1, k), OTHER);
        }
        x.become(0, 6);
        due("the greatest", x.taken(5, 6), 6);
    }

    private static void namesOfSizes() {
        for (int size = 1; size <= 6; size++) {
            SeatsRound x = new SeatsRound();
            int[] row = new int[1 + size];
            StringBuilder text = new StringBuilder();
            row[0] = size;
            for (int i = 1; i <= size; i++) {
                row[i] = 250 + i;
                text.append((char) (250 + i));
            }
            fill(x, 0, row);
            due("a NAME of " + size, x.names(0, 0, 1), 1);
            due("its bytes", x.number(0, 9), number(text.toString(), 9));
            due("as by THE TAPE", name(x, text.toString()), 0);
        }
        for (int size : new int[] {0, 7, -1, 127, 128, 255}) {
            SeatsRound x = new SeatsRound();
            x.row(0, 0, 60);
            x.put(0, 0, size);
            due("a size of " + size, x.names(0, 0, 1), 0);
        }
        SeatsRound x = new SeatsRound();
        fill(x, 0, 9, 1, 'a', 1, 'b', 1, 'c');
        due("one from place 1 on", x.names(0, 1, 1), 1);
        due("two from place 3 on", x.names(0, 3, 2), 2);
        due("the first", name(x, "a"), 0);
        due("the last", name(x, "c"), 2);
    }

    private static void passedOver() {
        SeatsRound x = new SeatsRound();
        name(x, "a");
        fill(x, 0, 1, 'a', 1, 'b', 1, 'a', 1, 'b', 2, 'a', 'b', 1, 'c');
        due("the one that there is", x.names(0, 0, 1), 0);
        due("that and a new one", x.names(0, 0, 2), 1);
        due("one twice in a ROW", x.names(0, 2, 3), 1 - 1);
        due("a longer one is another one", x.names(0, 4, 3), 1);
        due("the last", x.names(0, 0, 6), 1);
        due("all are there", x.names(0, 0, 20), 0);
        due("how many", x.count(0), 4);
        SeatsRound y = new SeatsRound();
        fill(y, 0, 1, 'a', 1, 'a', 1, 'b');
        due("one twice in a ROW is one", y.names(0, 0, 3), 2);
    }

    private static void whereItEnds() {
        SeatsRound x = new SeatsRound();
        due("the ROW is missing", x.names(0, 0, 1), 0);
        x.row(0, 0, 0);
        due("a ROW of none", x.names(0, 0, 20), 0);
        fill(x, 0, 1, 'a', 3, 'b', 'c', 'd');
        due("behind the end", x.names(0, 6, 1), 0);
        due("far behind it", x.names(0, MOST, 20), 0);
        due("ahead of the ROW", x.names(0, -1, 20), 0);
        due("far ahead of it", x.names(0, LEAST, 20), 0);
        due("the last byte tells a size", x.names(0, 5, 1), 0);
        fill(x, 0, 1, 'a', 3, 'b', 'c');
        due("within a NAME; the one ahead is there", x.names(0, 0, 20), 1);
        due("how many", x.count(0), 1);
        fill(x, 0, 1, 'b', 3, 'b', 'c', 'd');
        due("a NAME up to the last byte", x.names(0, 0, 20), 2);
        fill(x, 0, 1, 'e', 0, 1, 'f');
        due("no size; the one ahead is there", x.names(0, 0, 20), 1);
        fill(x, 0, 1, 'f', 7, 1, 2, 3, 4, 5, 6, 7);
        due("no such size; the one ahead is there", x.names(0, 0, 20), 1);
        due("how many", x.count(0), 5);
        x.row(0, 0, 60);
        x.put(0, 53, 6);
        due("up to the last of 60", x.names(0, 53, 1), 1);
        x.put(0, 54, 6);
        due("one byte too few of 60", x.names(0, 54, 1), 0);
        noRoom();
    }

    private static void noRoom() {
        SeatsRound x = new SeatsRound();
        names(x, 38);
        fill(x, 0, 1, 'a', 1, 'b', 1, 'a', 1, 'c', 1, 'd');
        due("room for two", x.names(0, 0, 20), 2);
        due("how many", x.count(0), 40);
        due("no room", x.names(0, 6, 20), 0);
        due("those that there are need none", x.names(0, 0, 20), 0);
        due("how many", x.count(0), 40);
        due("the last that came", name(x, "b"), 39);
    }

    private static void upTo20() {
        SeatsRound x = new SeatsRound();
        x.row(0, 0, 60);
        for (int i = 0; i < 30; i++) {
            x.put(0, 2 * i, 1);
            x.put(0, 2 * i + 1, i);
        }
        due("one", x.names(0, 0, 1), 1);
        due("20, of which one is there", x.names(0, 0, 20), 19);
        due("how many", x.count(0), 20);
        due("the other ten", x.names(0, 40, 20), 10);
        for (int n : new int[] {0, 21, -1, LEAST, MOST}) due("names(0, 0, " + n + ")", x.names(0, 0, n), BAD);
    }

    private static void namesRefused() {
        SeatsRound x = house(0);
        x.keep(1, 0);
        for (int shelf : new int[] {-1, 6, LEAST, MOST}) due("names(" + shelf + ", 0, 1)", x.names(shelf, 0, 1), BAD);
        for (int n : new int[] {0, 21}) {
            due("of nothing: BAD is named first", x.names(0, 0, n), BAD);
            due("of a KEEPER: BAD is named first", x.names(1, 0, n), BAD);
        }
        due("nothing", x.names(0, 0, 1), 0);
        due("nothing, and no such place", x.names(0, -1, 20), 0);
        due("a KEEPER", x.names(1, 0, 1), OTHER);
        for (int sort = 1; sort < 5; sort++) {
            x.row(2, sort, 2);
            x.put(2, 0, 1);
            x.put(2, 1, 1);
            due("a ROW of sort " + sort, x.names(2, 0, 1), OTHER);
            due("a ROW of sort " + sort + ", no such place", x.names(2, -1, 1), OTHER);
        }
        due("no NAMES came", x.count(0), 0);
    }

    private static void counted() {
        SeatsRound x = inOrder("c 2", 0, 1, 2, 3);
        name(x, "b");
        x.knows(3, 0);
        x.write(3, 0);
        x.write(3, 0);
        due("copies", x.count(4), 2);
        x.become(0, 4);
        x.write(3, 0);
        due("copies, not KEPT ones", x.count(4), 2);
        due("KEPT ones", x.count(5), 1);
        due("writings", x.count(6), 3);
        x.become(0, 0);
        due("KEPT ones that were handed back", x.count(5), 0);
        x.fall(0, 1);
        due("copies", x.count(4), 1);
        due("writings stay", x.count(6), 3);
        due("bodies", x.count(7), 0);
        x.act(0, 3, 1);
        due("bodies", x.count(7), 4);
        x.feed(3, 0);
        int[] want = {2, 4, 1, 3};
        for (int what = 0; what < 4; what++) due("count(" + what + ")", x.count(what), want[what]);
        for (int what : new int[] {-1, 8, LEAST, MOST}) due("count(" + what + ")", x.count(what), BAD);
    }
}
