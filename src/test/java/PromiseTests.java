/** Each promise by hand: ordinary inputs, the edges that the document names, wrong inputs. */
public final class PromiseTests extends Desk {
    public static void main(String[] args) {
        promise = 1; newObject();
        promise = 2; feeds();
        promise = 3; namesOnTheTape();
        promise = 4; numbers();
        promise = 5; keepers();
        promise = 6; becomes();
        promise = 7; strengths();
        promise = 8; ofKeepers();
        promise = 9; tables(); laws(); faults();
        promise = 10; ofTables();
        promise = 11; seats();
        promise = 12; picks();
        promise = 13; keepersOf();
        promise = 14; tooFew();
        promise = 15; shares();
        promise = 16; moves();
        promise = 17; knows();
        promise = 18; writes();
        promise = 19; reads();
        promise = 20; shelves();
        promise = 21; falls();
        promise = 22; halves();
        promise = 23; mends();
        promise = 24; trees();
        promise = 25; noons();
        promise = 26; lies();
        promise = 27; comings();
        promise = 28; orders();
        promise = 29; ordereds();
        promise = 30; turnings();
        promise = 31; harms();
        promise = 32; harmeds();
        promise = 33; acts();
        promise = 34; traces();
        promise = 35; keeps();
        promise = 36; rows();
        promise = 37; puts();
        promise = 38; elements();
        promise = 39; shifts();
        promise = 40; takens();
        promise = 41; namesFromRows();
        promise = 42; counts();
        end("all promises hold");
    }

    private static void newObject() {
        SeatsRound x = new SeatsRound();
        for (int w = 0; w < 8; w++) due("count(" + w + ")", x.count(w), 0);
        due("harmed()", x.harmed(), -1);
        due("ordered(0)", x.ordered(0), -1);
        due("trace(0)", x.trace(0), -1);
        due("seat(0, 0)", x.seat(0, 0), -1);
        for (int s = 0; s < 6; s++) due("taken", x.taken(s, 0), -11);
    }

    private static void feeds() {
        SeatsRound x = new SeatsRound();
        due("feed(0, 1)", x.feed(0, 1), -1);
        due("feed(5, 1)", x.feed(5, 1), -1);
        due("feed(-1, 1)", x.feed(-1, 1), -1);
        due("feed(2, 'ab')", x.feed(2, 'a' | 'b' << 8 | 'c' << 16), 2);
        due("name()", x.name(), 0);
        feed(x, "ab");
        due("the lowest byte first", x.name(), 0);
        due("a byte above 127", x.feed(1, -1), 1);
        due("name()", x.name(), 1);
        due("its number", x.number(1, 0), ((255 * 16777619) >>> 7) % 1000);
        for (int i = 1; i <= 19; i++) due("feed(4, 0)", x.feed(4, 0), 4 * i);
        due("feed(3, 0)", x.feed(3, 0), 79);
        due("feed(2, 0) at 79", x.feed(2, 0), -3);
        due("count(3)", x.count(3), 79);
        due("feed(9, 0), BAD ahead of FULL", x.feed(9, 0), -1);
        due("feed(1, 0)", x.feed(1, 0), 80);
        due("feed(1, 0) at 80", x.feed(1, 0), -3);
    }

    private static void namesOnTheTape() {
        SeatsRound x = new SeatsRound();
        due("name() of nothing", x.name(), -1);
        due("six bytes", name(x, "abcdef"), 0);
        feed(x, "abcdefg");
        due("seven bytes", x.name(), -1);
        due("the tape stays", x.count(3), 7);
        SeatsRound y = new SeatsRound();
        for (int i = 0; i < 40; i++) due("a new name", name(y, "n" + i), i);
        feed(y, "more");
        due("the 41st", y.name(), -3);
        due("it stays", y.count(3), 4);
        y.keeper(0, 1);
        y.table(1, 0);
        due("one that there is", name(y, "n7"), 7);
        due("the tape is empty", y.count(3), 0);
        due("count(0)", y.count(0), 40);
        due("a beginning is another name", name(x = new SeatsRound(), "ab"), 0);
        due("a beginning is another name", name(x, "a"), 1);
    }

    private static void numbers() {
        SeatsRound x = new SeatsRound();
        name(x, "a");
        name(x, "zz");
        due("number(0, 0)", x.number(0, 0), (('a' * 16777619) >>> 7) % 1000);
        due("number(0, -1)", x.number(0, -1), (((-1 ^ 'a') * 16777619) >>> 7) % 1000);
        due("number(1, 5)", x.number(1, 5), (((((5 ^ 'z') * 16777619) ^ 'z') * 16777619) >>> 7) % 1000);
        due("number(2, 0)", x.number(2, 0), -1);
        due("number(-1, 0)", x.number(-1, 0), -1);
    }

    private static void keepers() {
        SeatsRound x = new SeatsRound();
        due("street -1", x.keeper(-1, 1), -1);
        due("street 6", x.keeper(6, 1), -1);
        due("strength 0", x.keeper(0, 0), -1);
        due("strength 9", x.keeper(0, 9), -1);
        for (int k = 0; k < 12; k++) due("keeper", x.keeper(k % 6, 1 + k % 8), k);
        due("a 13th", x.keeper(0, 1), -3);
        due("BAD ahead of FULL", x.keeper(0, 9), -1);
        due("KIND", x.ofKeeper(5, 0), 0);
        due("STREET", x.ofKeeper(5, 1), 5);
        due("STRENGTH", x.ofKeeper(5, 2), 6);
    }

    private static void becomes() {
        SeatsRound x = house(0, 0);
        due("become(0, 6)", x.become(0, 6), 0);
        due("become(0, 3)", x.become(0, 3), 6);
        due("become(0, 7)", x.become(0, 7), -1);
        due("become(0, -1)", x.become(0, -1), -1);
        due("become(2, 0)", x.become(2, 0), -1);
        due("KIND stays", x.ofKeeper(0, 0), 3);
        // Two keepers, one copy: who does not keep the name keeps it for the sleeper.
        name(x, "a");
        table(x, "c 1", 3, 0);
        int first = x.keeperOf(0, 0, 0), other = 1 - first;
        x.become(first, 0);
        x.become(other, 0);
        x.knows(other, 0);
        x.become(first, 4);
        due("write", x.write(other, 0), 1);
        due("write again: over the kept one", x.write(other, 0), 1);
        due("kept version", x.onShelf(other, 0, 1), 2);
        due("asleep to asleep", x.become(first, 4), 4);
        due("still kept", x.count(5), 1);
        due("woken", x.become(first, 2), 4);
        due("handed back", x.onShelf(first, 0, 0), 2);
        due("kept no more", x.count(5), 0);
        due("for nobody", x.onShelf(other, 0, 2), -2);
        wakesFull();
    }

    /** Keepers 0 and 1; ten names, of which keeper 1 has as many as told, as table 0 is of it alone; table 1 of both. */
    private static SeatsRound filledUp(int many) {
        SeatsRound x = house(0, 1);
        for (int i = 0; i < 10; i++) name(x, "n" + i);
        table(x, "c 1", 2, 0);
        x.knows(0, 0);
        for (int n = 0; n < many; n++) x.write(0, n);
        table(x, "c 1", 3, 0);
        return x;
    }

    private static void wakesFull() {
        SeatsRound x = filledUp(8);
        x.become(1, 4);
        int z = 0, t = 1;
        while (t < 9 && z < 1000 && (x.keeperOf(t, 8, 0) != 1 || x.keeperOf(t, 9, 0) != 1 || x.keeperOf(t, 0, 0) != 1)) t = table(x, "c 1", 3, ++z);
        due("a table by which keeper 1 has them", x.keeperOf(t, 8, 0) * x.keeperOf(t, 9, 0) * x.keeperOf(t, 0, 0), 1);
        x.knows(0, t);
        due("kept for it", x.write(0, 8) + x.write(0, 9) + x.write(0, 0) + x.write(0, 9), 4);
        due("three are kept", x.ofKeeper(0, 6), 3);
        due("it wakes as FULL", x.become(1, 6), 4);
        due("a ninth NAME came", x.onShelf(1, 8, 0), 1);
        due("a tenth NAME came", x.onShelf(1, 9, 0), 2);
        due("the greater VERSION came", x.onShelf(1, 0, 0), 2);
        due("NAMES on its SHELF", x.ofKeeper(1, 5), 10);
        due("none is kept", x.count(5), 0);
        due("written to what it has", x.write(0, 8), 1);
        x.half(9, 1, 0);
        x.half(9, 1, 0);
        due("one is moved away", x.half(9, 1, 0), 3);
        due("with 9 it is FULL still", x.write(0, 9), 0);
    }

    private static void strengths() {
        SeatsRound x = house(0);
        due("strength(0, 8)", x.strength(0, 8), 1);
        due("strength(0, 0)", x.strength(0, 0), -1);
        due("strength(0, 9)", x.strength(0, 9), -1);
        due("strength(1, 1)", x.strength(1, 1), -1);
        due("strength(0, 2)", x.strength(0, 2), 8);
        table(x, "c 1", 1, 0);
        x.strength(0, 5);
        due("a table keeps what it was", x.ofTable(0, 1), 8);
    }

    private static void ofKeepers() {
        SeatsRound x = new SeatsRound();
        x.keeper(3, 4);
        int[] fresh = {0, 3, 4, 4, -1, 0, 0, 0};
        for (int w = 0; w < 8; w++) due("ofKeeper(0, " + w + ")", x.ofKeeper(0, w), fresh[w]);
        int[] counts = {4, 8, 4, 4, 4, 4, 8};
        for (int kind = 0; kind < 7; kind++) {
            x.become(0, kind);
            due("STRENGTH that counts of kind " + kind, x.ofKeeper(0, 3), counts[kind]);
        }
        x.fall(0, 1);
        due("FALLEN", x.ofKeeper(0, 7), 1);
        due("ofKeeper(0, 8)", x.ofKeeper(0, 8), -2000000000);
        due("ofKeeper(0, -1)", x.ofKeeper(0, -1), -2000000000);
        due("ofKeeper(1, 0)", x.ofKeeper(1, 0), -2000000000);
        due("ofKeeper(-1, 0)", x.ofKeeper(-1, 0), -2000000000);
    }

    private static void tables() {
        SeatsRound x = house(0, 1);
        feed(x, "c 1");
        due("no keepers", x.table(0, 0), -1);
        due("a keeper that is not there", x.table(4, 0), -1);
        due("the sign bit", x.table(Integer.MIN_VALUE, 0), -1);
        due("the tape stays", x.count(3), 3);
        due("table(3, 0)", x.table(3, 0), 0);
        due("the tape is empty", x.count(3), 0);
        due("a fault", table(x, "c ", 3, 0), -102);
        due("the tape is empty", x.count(3), 0);
        due("no table came", x.count(2), 1);
        for (int i = 1; i < 10; i++) due("a table", table(x, "c 1", 3, i), i);
        feed(x, "?");
        due("an 11th", x.table(3, 0), -3);
        due("BAD ahead of FULL", x.table(0, 0), -1);
        due("the tape stays", x.count(3), 1);
    }

    private static void law(String text, int copies, int streets, int way) {
        // Four keepers in three streets with strengths that count 1, 2, 3, 8: n 4, u 3, t 14, x 8.
        SeatsRound x = new SeatsRound();
        x.keeper(0, 1);
        x.keeper(0, 2);
        x.keeper(1, 3);
        x.keeper(2, 4);
        x.become(3, 1);
        due("table by " + text, table(x, text, 15, 0), 0);
        due("COPIES by " + text, x.ofTable(0, 2), copies);
        due("STREETS by " + text, x.ofTable(0, 3), streets);
        due("PICKED by " + text, x.ofTable(0, 4), way);
    }

    private static void laws() {
        law("c 3", 3, 1, 0);
        law("s 3", 2, 3, 0);
        law("p 2", 2, 1, 2);
        law("p 1;s 2;c 4", 4, 2, 1);
        law("c 0", 1, 1, 0);
        law("c 999", 4, 1, 0);
        law("c 1-9", 1, 1, 0);
        law("c n;s u", 4, 3, 0);
        law("c t-12;s x-6", 2, 2, 0);
        law("c 2+2*3-5", 3, 1, 0);
        law("c 9-4-2", 3, 1, 0);
        law("c 16/4/2", 2, 1, 0);
        law("c 17%7", 3, 1, 0);
        law("c 2+5/0", 2, 1, 0);
        law("c 2+5%0", 2, 1, 0);
        law("c (1-8)/2+6", 3, 1, 0);
        law("c (1-8)%3+4", 3, 1, 0);
        law("c ((((2))))", 2, 1, 0);
        law("c (1+1)*(3-2)+003", 4, 1, 0);
        law("c 2*(2-1)", 2, 1, 0);
        law("c 999*999*999*999%7", 999 * 999 * 999 * 999 % 7 < 1 ? 1 : Math.min(4, 999 * 999 * 999 * 999 % 7), 1, 0);
    }

    private static void fault(String text, int place) {
        due("fault of " + text, table(house(0), text, 1, 0), -100 - place);
    }

    private static void faults() {
        fault("", 0);
        fault("c", 1);
        fault("c ", 2);
        fault("c 1;", 4);
        fault("c 1+", 4);
        fault("c (1", 4);
        fault("c (", 3);
        fault("s 1;p ", 6);
        fault("x 1", 0);
        fault(" c 1", 0);
        fault("c1", 1);
        fault("c  1", 2);
        fault("c 1 ", 3);
        fault("c 1;c 2", 4);
        fault("c 1;p 1;c 2", 8);
        fault("c 1;s 1;p 1;", 11);
        fault("c 1;s 1;p 1;c 1", 11);
        fault("c 1;;", 4);
        fault("p 3", 2);
        fault("p n", 2);
        fault("p 12", 3);
        fault("p 1+1", 3);
        fault("c 1234", 5);
        fault("c -1", 2);
        fault("c 1+*2", 4);
        fault("c )", 2);
        fault("c 1)", 3);
        fault("c ()", 3);
        fault("c (1;s 1", 4);
        fault("c (((((1)))))", 6);
        fault("c ((((1))))+(((((", 16);
        fault("c n2", 3);
        fault("c 2n", 3);
        fault("c nn", 3);
        fault("c " + (char) 177, 2);
        fault("c 1" + (char) 0, 3);
        StringBuilder full = new StringBuilder("c 1");
        while (full.length() < 80) full.append("+1");
        full.setLength(80);
        fault(full.toString(), 80);
    }

    private static void ofTables() {
        SeatsRound x = new SeatsRound();
        x.keeper(0, 2);
        x.keeper(1, 3);
        x.become(1, 6);
        table(x, "c 3;s 2;p 1", 3, 9);
        due("KEEPERS", x.ofTable(0, 0), 3);
        due("SEATS", x.ofTable(0, 1), 4 * (2 + 6));
        due("EVEN", x.ofTable(0, 5), Math.abs(x.share(0, 0, 1) - x.share(0, 1, 1)));
        due("all ODDS", x.share(0, 0, 1) + x.share(0, 1, 1), 1000);
        x.become(1, 0);
        x.strength(0, 8);
        due("as they were then", x.ofTable(0, 1), 32);
        due("ofTable(0, 6)", x.ofTable(0, 6), -1);
        due("ofTable(0, -1)", x.ofTable(0, -1), -1);
        due("ofTable(1, 0)", x.ofTable(1, 0), -1);
        due("ofTable(-1, 0)", x.ofTable(-1, 0), -1);
    }

    private static void seats() {
        int[] strengths = new int[12];
        java.util.Arrays.fill(strengths, 16);
        int[] at = seated(1, strengths);
        SeatsRound x = null;
        for (int p = 0; p < 1000; p++) {
            if (p % 400 == 0) {
                x = new SeatsRound();
                for (int k = 0; k < 12; k++) x.keeper(0, 8);
                for (int k = 0; k < 12; k++) x.become(k, 1);
                table(x, "c 1", 4095, 1);
                due("SEATS of all", x.ofTable(0, 1), 768);
            }
            due("seat(0, " + p + ")", x.seat(0, p), at[p]);
        }
        due("seat(0, 1000)", x.seat(0, 1000), -1);
        due("seat(0, -1)", x.seat(0, -1), -1);
        due("seat(1, 0)", x.seat(1, 0), -1);
    }

    private static void picks() {
        int[] strengths = {8, 7, 6, 5, 4, 3, 2, 1};
        SeatsRound x = null;
        for (int m = 0; m < 1000; m += 3) {
            if (m % 45 == 0) {
                x = house(0, 1, 2, 3, 4, 5, 0, 1);
                for (int k = 0; k < 8; k++) x.strength(k, strengths[k]);
                for (int way = 0; way < 3; way++) table(x, "p " + way, 255, 77);
            }
            for (int way = 0; way < 3; way++) {
                java.util.List<Integer> want = picks(way, m, 77, strengths);
                for (int i = 0; i < 8; i++) due("picked(" + way + ", " + m + ", " + i + ")", x.picked(way, m, i), want.get(i));
            }
        }
        due("picked(0, 0, 8)", x.picked(0, 0, 8), -1);
        due("picked(0, 0, -1)", x.picked(0, 0, -1), -1);
        due("picked(0, 1000, 0)", x.picked(0, 1000, 0), -1);
        due("picked(0, -1, 0)", x.picked(0, -1, 0), -1);
        due("picked(3, 0, 0)", x.picked(3, 0, 0), -1);
    }

    private static void keepersOf() {
        SeatsRound x = house(0, 0, 0, 1, 2);
        name(x, "a");
        for (int z = 0; z < 3; z++) {
            table(x, "c 4;s 1", 31, z);
            table(x, "c 4;s 3", 31, z);
            int plain = 2 * z, streets = 2 * z + 1, m = x.number(0, z);
            due("how many", x.keeperOf(plain, 0, -1), 4);
            for (int i = 0; i < 4; i++) due("one street is enough", x.keeperOf(plain, 0, i), x.picked(plain, m, i));
            int bits = 0;
            for (int i = 0; i < 3; i++) bits |= 1 << x.ofKeeper(x.keeperOf(streets, 0, i), 1);
            due("three unlike streets first", bits, 7);
            due("the first one is the first picked", x.keeperOf(streets, 0, 0), x.picked(streets, m, 0));
        }
        due("fewer than COPIES", table(x, "c 4", 3, 0), 6);
        due("all there are", x.keeperOf(6, 0, -1), 2);
        due("keeperOf(6, 0, 2)", x.keeperOf(6, 0, 2), -1);
        due("keeperOf(6, 0, -2)", x.keeperOf(6, 0, -2), -1);
        due("keeperOf(6, 1, 0)", x.keeperOf(6, 1, 0), -1);
        due("keeperOf(6, -1, -1)", x.keeperOf(6, -1, -1), -1);
        due("keeperOf(7, 0, -1)", x.keeperOf(7, 0, -1), -1);
    }

    private static void tooFew() {
        SeatsRound x = house(0, 0, 1);
        table(x, "c 2;s 2", 3, 0);
        table(x, "c 2;s 2", 7, 0);
        table(x, "c 1;s 2", 7, 0);
        due("no names", x.tooFew(0), 0);
        name(x, "a");
        name(x, "b");
        due("one street", x.tooFew(0), 2);
        due("two streets", x.tooFew(1), 0);
        due("one copy", x.tooFew(2), 2);
        due("tooFew(3)", x.tooFew(3), -1);
        due("tooFew(-1)", x.tooFew(-1), -1);
    }

    private static void shares() {
        SeatsRound x = house(0, 1, 2, 3);
        for (int i = 0; i < 9; i++) name(x, "n" + i);
        for (int way = 0; way < 3; way++) {
            int t = table(x, "p " + way, 7, 5), names = 0, odds = 0;
            for (int k = 0; k < 3; k++) {
                int share = 0, all = 0;
                for (int n = 0; n < 9; n++) if (x.keeperOf(t, n, 0) == k) share++;
                for (int m = 0; m < 1000; m++) if (picks(way, m, 5, 1, 1, 1).get(0) == k) all++;
                due("SHARE", x.share(t, k, 0), share);
                due("ODDS", x.share(t, k, 1), all);
                names += share;
                odds += all;
            }
            due("all SHARES", names, 9);
            due("all ODDS", odds, 1000);
            due("not in it", x.share(t, 3, 0), 0);
            due("not in it", x.share(t, 3, 1), 0);
        }
        due("share(0, 4, 0)", x.share(0, 4, 0), -1);
        due("share(0, 0, 2)", x.share(0, 0, 2), -1);
        due("share(0, 0, -1)", x.share(0, 0, -1), -1);
        due("share(3, 0, 0)", x.share(3, 0, 0), -1);
    }

    private static void moves() {
        SeatsRound x = house(0, 1, 2);
        name(x, "a");
        name(x, "b");
        table(x, "c 1", 1, 0);
        table(x, "c 2", 3, 0);
        table(x, "c 3", 7, 0);
        x.strength(0, 2);
        table(x, "c 3", 7, 0);
        due("to one more copy", x.moves(0, 1, 0), 2);
        due("who comes is needed", x.moves(0, 1, 1), 0);
        due("back", x.moves(1, 0, 0), 0);
        due("none to itself", x.moves(1, 1, 0), 0);
        due("all have all", x.moves(2, 3, 0), 0);
        table(x, "c 1", 7, 0);
        due("more copies of the same keepers", x.moves(4, 3, 0), 4);
        due("all needless", x.moves(4, 3, 1), 4);
        x.strength(0, 3);
        table(x, "c 3", 7, 0);
        int needless = 0;
        for (int n = 0; n < 2; n++) if (x.keeperOf(4, n, 0) != 0) needless++;
        due("another strength of keeper 0", x.moves(4, 5, 1), needless);
        due("moves(0, 6, 0)", x.moves(0, 6, 0), -1);
        due("moves(-1, 0, 0)", x.moves(-1, 0, 0), -1);
        due("moves(0, 0, 2)", x.moves(0, 0, 2), -1);
        due("moves(0, 0, -1)", x.moves(0, 0, -1), -1);
    }

    private static void knows() {
        SeatsRound x = house(0);
        due("no table yet", x.knows(0, 0), -2000000000);
        due("none", x.knows(0, -1), -1);
        table(x, "c 1", 1, 0);
        due("knows(0, 0)", x.knows(0, 0), -1);
        due("knows(0, 1)", x.knows(0, 1), -2000000000);
        due("knows(0, -2)", x.knows(0, -2), -2000000000);
        due("knows(1, 0)", x.knows(1, 0), -2000000000);
        due("knows(-1, 0)", x.knows(-1, 0), -2000000000);
        due("it stayed", x.ofKeeper(0, 4), 0);
        due("knows(0, -1)", x.knows(0, -1), 0);
    }

    private static void writes() {
        SeatsRound x = house(0, 1);
        for (int i = 0; i < 10; i++) name(x, "n" + i);
        due("knows none", x.write(0, 0), -5);
        due("write(2, 0)", x.write(2, 0), -1);
        due("write(0, 10)", x.write(0, 10), -1);
        due("no writing", x.count(6), 0);
        table(x, "c 2", 3, 0);
        x.knows(0, 0);
        due("to both", x.write(0, 0), 2);
        x.fall(1, 1);
        due("one is fallen", x.write(0, 0), 1);
        due("VERSION", x.onShelf(0, 0, 0), 2);
        x.fall(1, 0);
        x.become(1, 4);
        due("nobody is left to keep it", x.write(0, 0), 1);
        x.become(1, 6);
        for (int n = 1; n < 9; n++) due("FULL has room for 8", x.write(0, n), 2);
        due("FULL with 8 NAMES", x.write(0, 9), 1);
        due("FULL has that NAME", x.write(0, 8), 2);
        x.become(0, 4);
        due("asleep", x.write(0, 0), -5);
        x.become(0, 0);
        x.fall(0, 1);
        due("fallen", x.write(0, 0), -5);
        due("writings", x.count(6), 13);
        twoSleepers();
    }

    private static void twoSleepers() {
        SeatsRound x = house(0, 1, 2, 3);
        name(x, "a");
        table(x, "c 2", 15, 0);
        int m = x.number(0, 0);
        int one = x.picked(0, m, 0), two = x.picked(0, m, 1), three = x.picked(0, m, 2), four = x.picked(0, m, 3);
        x.knows(four, 0);
        x.become(one, 4);
        x.become(two, 4);
        due("both are kept for", x.write(four, 0), 2);
        due("by the next one picked", x.onShelf(three, 0, 2), one);
        due("by the one behind that", x.onShelf(four, 0, 2), two);
        x.fall(three, 1);
        due("the second keeps for another one", x.write(four, 0), 1);
        due("its VERSION", x.onShelf(four, 0, 1), 2);
        x.fall(three, 0);
        x.fall(one, 1);
        due("a fallen sleeper gets nothing", x.write(four, 0), 1);
        due("the first that may keeps it", x.onShelf(three, 0, 2), two);
        x.become(two, 0);
        due("the greatest comes", x.onShelf(two, 0, 0), 3);
        due("none is kept", x.count(5), 0);
    }

    private static void reads() {
        SeatsRound x = house(0, 1, 2);
        name(x, "a");
        table(x, "c 2", 3, 0);
        table(x, "c 1", 4, 0);
        due("read(0, 0), knows none", x.read(0, 0), -5);
        due("read(3, 0)", x.read(3, 0), -1);
        due("read(0, 1)", x.read(0, 1), -1);
        x.knows(0, 0);
        x.knows(2, 1);
        due("none", x.read(0, 0), 0);
        x.write(0, 0);
        due("one VERSION", x.read(0, 0), 1);
        due("another table", x.read(2, 0), 0);
        x.fall(1, 1);
        x.write(0, 0);
        x.fall(1, 0);
        due("the greatest", x.read(0, 0), 2);
        x.knows(2, 0);
        x.become(0, 4);
        due("sleepers do not answer", x.read(2, 0), 0);
        due("asleep", x.read(0, 0), -5);
        x.become(0, 0);
        x.fall(0, 1);
        due("fallen", x.read(0, 0), -5);
        due("its shelf is empty", x.read(2, 0), 0);
    }

    private static void shelves() {
        SeatsRound x = house(0, 1);
        name(x, "a");
        int[] fresh = {0, 0, -2, 0};
        for (int w = 0; w < 4; w++) due("onShelf(0, 0, " + w + ")", x.onShelf(0, 0, w), fresh[w]);
        due("onShelf(0, 0, 4)", x.onShelf(0, 0, 4), -1);
        due("onShelf(0, 0, -1)", x.onShelf(0, 0, -1), -1);
        due("onShelf(0, 1, 0)", x.onShelf(0, 1, 0), -1);
        due("onShelf(2, 0, 0)", x.onShelf(2, 0, 0), -1);
        table(x, "c 1", 3, 0);
        int first = x.keeperOf(0, 0, 0), other = 1 - first;
        x.knows(other, 0);
        x.write(other, 0);
        x.become(first, 4);
        x.write(other, 0);
        due("on its shelf", x.onShelf(first, 0, 0), 1);
        due("kept by the other", x.onShelf(other, 0, 1), 2);
        due("for whom", x.onShelf(other, 0, 2), first);
        due("not on the other's shelf", x.onShelf(other, 0, 0), 0);
        due("NAMES on its SHELF", x.ofKeeper(first, 5), 1);
        due("KEEPS for others", x.ofKeeper(other, 6), 1);
    }

    private static void falls() {
        SeatsRound x = house(0, 1);
        name(x, "a");
        table(x, "c 1", 3, 0);
        int first = x.keeperOf(0, 0, 0), other = 1 - first;
        x.knows(other, 0);
        x.write(other, 0);
        x.become(first, 4);
        x.write(other, 0);
        due("fall(2, 1)", x.fall(2, 1), -1);
        due("fall(0, 2)", x.fall(0, 2), -1);
        due("fall(0, -1)", x.fall(0, -1), -1);
        due("nothing fell", x.count(4) * 10 + x.count(5), 11);
        due("FALLS", x.fall(other, 1), 0);
        due("what it KEPT is gone", x.count(5), 0);
        due("again", x.fall(other, 1), 1);
        due("the other's shelf stays", x.count(4), 1);
        due("RISES", x.fall(other, 0), 1);
        due("RISES again", x.fall(other, 0), 0);
        x.fall(first, 1);
        due("its shelf is empty", x.count(4), 0);
        due("the next VERSION is one more of all", x.fall(first, 0) + x.become(first, 0), 5);
        x.write(other, 0);
        due("VERSION", x.onShelf(first, 0, 0), 3);
    }

    private static void halves() {
        SeatsRound x = house(0, 1, 2);
        name(x, "a");
        table(x, "c 1", 1, 0);
        x.knows(0, 0);
        due("it has it not", x.half(0, 0, 1), -2);
        x.write(0, 0);
        due("half(1, 0, 1)", x.half(1, 0, 1), -1);
        due("half(0, 3, 1)", x.half(0, 3, 1), -1);
        due("half(0, 0, 3)", x.half(0, 0, 3), -1);
        due("half(0, 0, 0)", x.half(0, 0, 0), -1);
        due("first PIECE", x.half(0, 0, 1), 1);
        due("second PIECE", x.half(0, 0, 1), 2);
        due("to another one: anew", x.half(0, 0, 2), 1);
        due("back: anew", x.half(0, 0, 1), 1);
        x.become(1, 4);
        due("it is cut", x.half(0, 0, 1), 0);
        due("PIECES", x.onShelf(0, 0, 3), 0);
        x.become(1, 0);
        due("anew", x.half(0, 0, 1), 1);
        x.fall(1, 1);
        due("cut by one that is FALLEN", x.half(0, 0, 1), 0);
        x.fall(1, 0);
        due("anew", x.half(0, 0, 1), 1);
        due("second", x.half(0, 0, 1), 2);
        x.write(0, 0);
        due("third: it came", x.half(0, 0, 1), 3);
        due("the VERSION that it has then", x.onShelf(1, 0, 0), 2);
        due("the first one has it no more", x.onShelf(0, 0, 0), 0);
        due("PIECES behind the third", x.onShelf(0, 0, 3), 0);
        // A lesser VERSION never comes over a greater one.
        x.mend(0);
        table(x, "c 1", 2, 0);
        x.knows(1, 1);
        x.write(1, 0);
        for (int i = 1; i < 4; i++) due("a lesser one", x.half(0, 0, 1), i);
        due("stays the greater one", x.onShelf(1, 0, 0), 3);
        due("is gone from the first one", x.onShelf(0, 0, 0), 0);
        halfToFull();
    }

    private static void halfToFull() {
        SeatsRound x = filledUp(8);
        table(x, "c 1", 1, 0);
        x.become(1, 6);
        x.knows(0, 2);
        for (int n = 7; n < 10; n++) x.write(0, n);
        for (int i = 1; i < 4; i++) due("a ninth NAME to one that is FULL", x.half(8, 0, 1), i);
        due("it came", x.onShelf(1, 8, 0), 1);
        due("the first one has it no more", x.onShelf(0, 8, 0), 0);
        for (int i = 1; i < 4; i++) due("a NAME that it has", x.half(7, 0, 1), i);
        due("the greater VERSION came", x.onShelf(1, 7, 0), 2);
        due("NAMES on its SHELF", x.ofKeeper(1, 5), 9);
        table(x, "c 1", 2, 0);
        due("mending asks for room", x.mend(3), 0);
        due("so none of the tenth came", x.onShelf(1, 9, 0), 0);
    }

    private static void mends() {
        SeatsRound x = house(0, 1, 2);
        for (int i = 0; i < 10; i++) name(x, "n" + i);
        table(x, "c 1", 1, 0);
        table(x, "c 3", 7, 0);
        due("nothing", x.mend(1), 0);
        x.knows(0, 0);
        for (int n = 0; n < 10; n++) x.write(0, n);
        x.become(2, 6);
        x.fall(1, 1);
        due("FULL takes 8", x.mend(1), 8);
        x.fall(1, 0);
        due("who rose takes all", x.mend(1), 10);
        due("nothing more", x.mend(1), 0);
        x.write(0, 0);
        x.become(1, 4);
        due("none to a sleeper", x.mend(1), 1);
        x.become(0, 4);
        x.become(1, 0);
        due("from a sleeper", x.mend(1), 1);
        due("the greatest VERSION", x.onShelf(1, 0, 0), 2);
        due("mend(2)", x.mend(2), -1);
        due("mend(-1)", x.mend(-1), -1);
    }

    private static void trees() {
        SeatsRound x = house(0, 1);
        for (int i = 0; i < 9; i++) name(x, "n" + i);
        table(x, "c 1", 1, 0);
        table(x, "c 1", 2, 0);
        x.knows(0, 0);
        x.knows(1, 1);
        due("alike", x.trees(0, 1, 0), 1);
        due("alike", x.trees(0, 1, 1), 0);
        x.write(0, 8);
        due("one leaf", x.trees(0, 1, 0), 7);
        due("one leaf", x.trees(1, 0, 1), 1);
        x.write(0, 0);
        due("the same leaf", x.trees(0, 1, 1), 1);
        x.write(0, 7);
        due("two leaves far apart", x.trees(0, 1, 0), 11);
        due("two leaves", x.trees(0, 1, 1), 2);
        due("trees(0, 0, 0)", x.trees(0, 0, 0), -1);
        due("trees(0, 2, 0)", x.trees(0, 2, 0), -1);
        due("trees(-1, 0, 0)", x.trees(-1, 0, 0), -1);
        due("trees(0, 1, 2)", x.trees(0, 1, 2), -1);
        due("trees(0, 1, -1)", x.trees(0, 1, -1), -1);
        // Sums that are alike by chance hide what is below: 1 * version 2 here, 2 * version 1 there.
        SeatsRound y = house(0, 1);
        name(y, "a");
        name(y, "b");
        table(y, "c 1", 1, 0);
        table(y, "c 1", 2, 0);
        y.knows(0, 0);
        y.knows(1, 1);
        y.write(0, 0);
        y.write(0, 0);
        y.write(1, 1);
        due("a root that is alike", y.trees(0, 1, 0), 1);
        due("leaves that are unlike", y.trees(0, 1, 1), 2);
    }

    private static void noons() {
        SeatsRound x = house(0, 1, 2);
        table(x, "c 1", 7, 0);
        due("noon(0, 0, 0)", x.noon(0, 0, 0), 1);
        due("noon(0, 1, 0)", x.noon(0, 1, 0), -2);
        due("noon(0, 10, 10)", x.noon(0, 10, 10), 1);
        due("noon(0, 11, 10)", x.noon(0, 11, 10), 2);
        due("noon(0, 30, 10)", x.noon(0, 30, 10), 3);
        due("noon(0, 31, 10)", x.noon(0, 31, 10), -2);
        due("noon(0, 9999, 3333)", x.noon(0, 9999, 3333), 3);
        due("noon(0, 9999, 9999)", x.noon(0, 9999, 9999), 1);
        due("noon(0, 10000, 1)", x.noon(0, 10000, 1), -1);
        due("noon(0, -1, 1)", x.noon(0, -1, 1), -1);
        due("noon(0, 1, 10000)", x.noon(0, 1, 10000), -1);
        due("noon(0, 1, -1)", x.noon(0, 1, -1), -1);
        due("noon(1, 1, 1)", x.noon(1, 1, 1), -1);
    }

    private static void lies() {
        SeatsRound x = new SeatsRound();
        x.keeper(0, 8);
        due("never late", x.lies(0, 0, 99, 0), 8);
        due("half the time", x.lies(0, 5, 10, 0), 4);
        due("up", x.lies(0, 49, 99, 0), 5);
        due("SEATS", x.lies(0, 49, 99, 1), 12);
        due("1 at least", x.lies(0, 99, 99, 0), 1);
        due("SEATS", x.lies(0, 99, 99, 1), 28);
        x.become(0, 1);
        due("not doubled", x.lies(0, 5, 10, 0), 4);
        due("not doubled", x.lies(0, 5, 10, 1), 16);
        due("lies(0, 2, 1, 0)", x.lies(0, 2, 1, 0), -1);
        due("lies(0, 0, 0, 0)", x.lies(0, 0, 0, 0), -1);
        due("lies(0, 0, 100, 0)", x.lies(0, 0, 100, 0), -1);
        due("lies(0, 100, 100, 0)", x.lies(0, 100, 100, 0), -1);
        due("lies(0, -1, 1, 0)", x.lies(0, -1, 1, 0), -1);
        due("lies(0, 0, 1, 2)", x.lies(0, 0, 1, 2), -1);
        due("lies(1, 0, 1, 0)", x.lies(1, 0, 1, 0), -1);
    }

    private static void comings() {
        SeatsRound x = house(0, 1, 2, 3, 4, 5);
        due("comes(6)", x.comes(6), -1);
        due("comes(-1)", x.comes(-1), -1);
        for (int k = 0; k < 5; k++) due("comes", x.comes(k), k + 1);
        due("told already, ahead of FULL", x.comes(0), -1);
        due("a sixth", x.comes(5), -3);
    }

    private static void orders() {
        SeatsRound x = house(0, 1, 2);
        name(x, "a");
        name(x, "b");
        table(x, "c 2", 1, 0);
        due("none told", x.order(0), -1);
        x.comes(0);
        due("order(1)", x.order(1), -1);
        due("nobody would be left", x.order(0), -2);
        due("they stay", x.comes(0), -1);
        x.comes(1);
        due("1 comes, then 0 goes", x.order(0), 2);
        due("first", x.ordered(0), 1);
        due("then", x.ordered(1), 0);
        due("none told then", x.order(0), -1);
        // The law is worked out anew: one copy for each keeper.
        table(x, "c n", 1, 0);
        x.comes(1);
        x.comes(2);
        due("two come", x.order(1), 4);
        due("of several the first", x.ordered(0) * 10 + x.ordered(1), 1);
        lawBehindTheTable();
    }

    /** Who comes has the strength of now, the others that of the table. */
    private static void lawBehindTheTable() {
        SeatsRound x = house(0, 1);
        for (int i = 0; i < 20; i++) name(x, "n" + i);
        table(x, "c 1", 1, 3);
        x.strength(0, 8);
        x.strength(1, 5);
        x.comes(1);
        int sum = x.order(0);
        x.strength(0, 1);
        table(x, "c 1", 3, 3);
        due("the strengths", sum, x.moves(0, 1, 0));
    }

    private static void ordereds() {
        SeatsRound x = house(0, 1, 2);
        table(x, "c 1", 1, 0);
        x.comes(2);
        x.comes(0);
        due("order(0)", x.order(0), 0);
        due("ordered(0)", x.ordered(0), 0);
        due("ordered(1)", x.ordered(1), 1);
        due("ordered(2)", x.ordered(2), -1);
        due("ordered(-1)", x.ordered(-1), -1);
        x.comes(0);
        due("NOT", x.order(0), -2);
        due("the latest that found one", x.ordered(1), 1);
        x.comes(1);
        due("order(0)", x.order(0), 0);
        due("ordered(0)", x.ordered(0), 1);
        SeatsRound y = house(0, 1, 2, 3, 4, 5);
        table(y, "c 1", 1, 0);
        for (int k = 0; k < 5; k++) y.comes(5 - k);
        due("five, and no names", y.order(0), 0);
        for (int i = 0; i < 5; i++) due("of like orders the first", y.ordered(i), i);
    }

    private static void turnings() {
        SeatsRound x = new SeatsRound();
        for (int i = 1; i < 7; i++) due("turning", x.turning(Integer.MIN_VALUE), i);
        due("a seventh", x.turning(0), -3);
    }

    private static void harms() {
        SeatsRound x = house(0, 1, 2);
        for (int i = 0; i < 12; i++) name(x, "n" + i);
        for (int way = 0; way < 3; way++) {
            int least = 99, place = 0;
            SeatsRound y = house(0, 1, 2);
            for (int i = 0; i < 12; i++) name(y, "n" + i);
            for (int i = 0; i < 6; i++) {
                int t = table(y, "p " + way, 7, i * i * 31), most = 0;
                for (int k = 0; k < 3; k++) most = Math.max(most, y.share(t, k, 0));
                if (most < least) {
                    least = most;
                    place = i;
                }
            }
            table(x, "p " + way, 7, 1);
            due("none is told", x.harm(way), -1);
            for (int i = 0; i < 6; i++) x.turning(i * i * 31);
            due("no such table", x.harm(3), -1);
            due("harm", x.harm(way), place);
            due("harmed()", x.harmed(), least);
            due("they are none then", x.turning(0), 1);
            x.harm(way);
        }
        x.turning(5);
        x.turning(5);
        due("of like ones the first", x.harm(0), 0);
    }

    private static void harmeds() {
        SeatsRound x = house(0);
        due("none yet", x.harmed(), -1);
        table(x, "c 1", 1, 0);
        x.turning(0);
        due("harm of no names", x.harm(0), 0);
        due("no names", x.harmed(), 0);
        name(x, "a");
        x.turning(0);
        x.harm(0);
        due("one name", x.harmed(), 1);
        due("BAD", x.harm(0), -1);
        due("it stays", x.harmed(), 1);
    }

    private static void bodies(SeatsRound x, String call, int... want) {
        due(call + ": how many bodies", x.count(7), want.length);
        for (int i = 0; i < want.length; i++) due(call + ": body " + i, x.trace(i), want[i]);
        due(call + ": no more", x.trace(want.length), -1);
    }

    private static void acts() {
        // Keeper 2 of strength 5, x 7: finds of a plain one 9, moves 7 ^ 2 = 5.
        SeatsRound x = new SeatsRound();
        for (int k = 0; k < 3; k++) x.keeper(0, 5);
        int[][] want = {
            {9, 18, 5, 18 - 3}, {14, 28, 5, 28 - 3}, {9, 18, 15, 18 - 9}, {9, -18, 5, -18 - 3},
            {9, 18, 5, 15 ^ 9}, {10, 20, 5 - 5, 20 - (3 - 5)}, {28, 56 + 5, 5, 61 - 3}};
        for (int kind = 0; kind < 7; kind++) {
            x.become(2, kind);
            for (int act = 0; act < 4; act++) due("kind " + kind + " act " + act, x.act(2, act, 7), want[kind][act]);
        }
        x.become(2, 5);
        x.act(2, 3, 7);
        bodies(x, "MISTAKEN tells", 2, 10, 60, 1, 61, 11, 60, 1);
        due("no such KEEPER", x.act(3, 0, 7), 0);
        bodies(x, "no such KEEPER");
        x.act(2, 0, 7);
        due("no such ACT", x.act(2, 4, 7), 0);
        bodies(x, "no such ACT");
        due("no such ACT", x.act(2, -1, 7), 0);
        x.become(2, 0);
        due("it wraps", x.act(2, 0, Integer.MAX_VALUE), Integer.MIN_VALUE + 1);
    }

    private static void traces() {
        SeatsRound x = new SeatsRound();
        x.keeper(0, 1);
        int[][][] want = {
            {{1}, {10, 1}, {11}, {2, 10, 1, 11}},
            {{20, 1}, {10, 20, 1}, {11}, {2, 10, 20, 1, 11}},
            {{1}, {10, 1}, {30, 11}, {2, 10, 1, 30, 11}},
            {{1}, {40, 10, 1}, {11}, {2, 40, 10, 1, 11}},
            {{1}, {10, 1}, {11}, {50, 2, 10, 1, 11}},
            {{60, 1}, {10, 60, 1}, {61, 11, 60, 1}, {2, 10, 60, 1, 61, 11, 60, 1}},
            {{71, 20, 1}, {70, 10, 71, 20, 1, 11}, {11}, {2, 70, 10, 71, 20, 1, 11, 11}}};
        for (int kind = 0; kind < 7; kind++) {
            x.become(0, kind);
            for (int act = 0; act < 4; act++) {
                x.act(0, act, 1);
                bodies(x, "kind " + kind + " act " + act, want[kind][act]);
            }
        }
        due("trace(-1)", x.trace(-1), -1);
        due("trace(24)", x.trace(24), -1);
    }

    private static void keeps() {
        SeatsRound x = house(0);
        due("keep(6, 0)", x.keep(6, 0), -1);
        due("keep(-1, 0)", x.keep(-1, 0), -1);
        due("keep(0, 1)", x.keep(0, 1), -1);
        due("keep(0, -2)", x.keep(0, -2), -1);
        due("keep(5, 0)", x.keep(5, 0), 1);
        due("taken(5, 0)", x.taken(5, 0), 0);
        due("keep(5, -1)", x.keep(5, -1), 1);
        due("nothing", x.taken(5, 0), -11);
        x.row(5, 0, 3);
        due("instead of a ROW", x.keep(5, 0), 1);
        due("no ROW", x.put(5, 0, 1), -12);
    }

    private static void rows() {
        SeatsRound x = house(0);
        due("row(0, 0, 60)", x.row(0, 0, 60), 1);
        due("row(0, 0, 61)", x.row(0, 0, 61), -1);
        due("row(0, 5, 1)", x.row(0, 5, 1), -1);
        due("row(0, -1, 1)", x.row(0, -1, 1), -1);
        due("row(6, 0, 1)", x.row(6, 0, 1), -1);
        due("row(0, 0, -1)", x.row(0, 0, -1), -14);
        due("BAD ahead of -14", x.row(0, 5, -1), -1);
        x.put(0, 59, 7);
        due("it stayed", x.element(0, 59), 7);
        due("anew", x.row(0, 0, 60), 1);
        due("0 at first", x.element(0, 59), 0);
        due("row(1, 3, 0)", x.row(1, 3, 0), 1);
        due("no element", x.put(1, 0, 1), -13);
    }

    private static void puts() {
        SeatsRound x = house(0);
        long v = 0x123456789ABCDEF0L;
        long[] want = {(byte) v, (short) v, (int) v, v, 1};
        for (int sort = 0; sort < 5; sort++) {
            x.row(0, sort, 2);
            due("put", x.put(0, 1, v), 1);
            due("lowest bits of sort " + sort, x.element(0, 1), want[sort]);
            due("its neighbour", x.element(0, 0), 0);
            x.put(0, 1, 256L << 32);
            due("lowest bits of sort " + sort, x.element(0, 1), new long[] {0, 0, 0, 256L << 32, 1}[sort]);
            x.put(0, 1, 0);
            due("0 again", x.element(0, 1), 0);
        }
        due("put(6, 0, 1)", x.put(6, 0, 1), -1);
        due("put(-1, 0, 1)", x.put(-1, 0, 1), -1);
        due("put(1, 0, 1)", x.put(1, 0, 1), -11);
        due("-11 ahead of -13", x.put(1, -1, 1), -11);
        x.keep(1, 0);
        due("put(1, 99, 1)", x.put(1, 99, 1), -12);
        due("put(0, 2, 1)", x.put(0, 2, 1), -13);
        due("put(0, -1, 1)", x.put(0, -1, 1), -13);
    }

    private static void elements() {
        SeatsRound x = house(0);
        long none = Long.MIN_VALUE;
        due("element(6, 0)", x.element(6, 0), none);
        due("element(0, 0)", x.element(0, 0), none);
        x.keep(0, 0);
        due("of a KEEPER", x.element(0, 0), none);
        x.row(0, 3, 1);
        due("element(0, 1)", x.element(0, 1), none);
        due("element(0, -1)", x.element(0, -1), none);
        due("element(0, 0)", x.element(0, 0), 0);
        x.put(0, 0, -5);
        due("element(0, 0)", x.element(0, 0), -5);
    }

    private static void shifts() {
        SeatsRound x = house(0);
        x.row(0, 2, 5);
        x.row(1, 2, 3);
        x.row(2, 1, 3);
        x.keep(3, 0);
        for (int i = 0; i < 5; i++) x.put(0, i, i + 1);
        due("to another one", x.shift(0, 2, 1, 0, 3), 3);
        for (int i = 0; i < 3; i++) due("element", x.element(1, i), i + 3);
        due("over itself, up", x.shift(0, 0, 0, 1, 4), 4);
        int[] up = {1, 1, 2, 3, 4};
        for (int i = 0; i < 5; i++) due("element", x.element(0, i), up[i]);
        due("over itself, down", x.shift(0, 2, 0, 0, 3), 3);
        int[] down = {2, 3, 4, 3, 4};
        for (int i = 0; i < 5; i++) due("element", x.element(0, i), down[i]);
        due("none at the end", x.shift(0, 5, 1, 3, 0), 0);
        due("none behind the end", x.shift(0, 6, 1, 3, 0), -13);
        due("too many here", x.shift(0, 3, 1, 0, 3), -13);
        due("too many there", x.shift(0, 0, 1, 1, 3), -13);
        due("from below 0", x.shift(0, -1, 1, 0, 1), -13);
        due("to below 0", x.shift(0, 0, 1, -1, 1), -13);
        due("fewer than none", x.shift(0, 0, 1, 0, -1), -13);
        due("as many as may be", x.shift(0, 1, 1, 1, Integer.MAX_VALUE), -13);
        due("of unlike sorts", x.shift(0, 0, 2, 0, 1), -12);
        due("a KEEPER", x.shift(0, 0, 3, 0, 1), -12);
        due("a KEEPER", x.shift(3, 0, 0, 0, 1), -12);
        due("-11 ahead of -12", x.shift(3, 0, 4, 0, 1), -11);
        due("nothing", x.shift(4, 0, 0, 0, 1), -11);
        due("no shelf", x.shift(6, 0, 4, 0, 1), -1);
        due("no shelf", x.shift(4, 0, -1, 0, 1), -1);
    }

    private static void takens() {
        SeatsRound x = house(0);
        x.keep(0, 0);
        x.row(1, 0, 1);
        for (int kind = 0; kind < 7; kind++) {
            x.become(0, kind);
            for (int k = 0; k < 7; k++) {
                boolean under = k == 0 || k == kind || k == 1 && kind == 6;
                due("kind " + kind + " taken for " + k, x.taken(0, k), under ? kind : -12);
            }
        }
        due("a ROW", x.taken(1, 0), -12);
        due("nothing", x.taken(2, 0), -11);
        due("taken(2, 7)", x.taken(2, 7), -1);
        due("taken(0, -1)", x.taken(0, -1), -1);
        due("taken(6, 0)", x.taken(6, 0), -1);
    }

    private static void namesFromRows() {
        SeatsRound x = house(0);
        fill(x, 0, 1, 'a', 2, 'b', 200, 1, 'a', 6, '1', '2', '3', '4', '5', '6', 3, 'x', 'y');
        due("one of them", x.names(0, 0, 1), 1);
        due("two of them", x.names(0, 0, 2), 1);
        due("as by the tape", name(x, "b" + (char) 200), 1);
        due("one that there is, and one more", x.names(0, 5, 2), 1);
        due("within a NAME it ends", x.names(0, 14, 1), 0);
        due("all are there", x.names(0, 0, 20), 0);
        due("count(0)", x.count(0), 3);
        due("n counts those passed over", x.names(0, 0, 3), 0);
        fill(x, 0, 1, 'q', 0, 1, 'r');
        due("it has no size", x.names(0, 0, 20), 1);
        fill(x, 0, 7, 'a', 'b', 'c', 'd', 'e', 'f', 'g');
        due("a size of 7", x.names(0, 0, 1), 0);
        fill(x, 0, -1, 'a', 1);
        due("a size below 0", x.names(0, 0, 1), 0);
        due("a size at the end", x.names(0, 2, 1), 0);
        due("behind the end", x.names(0, 3, 1), 0);
        due("ahead of the row", x.names(0, -1, 1), 0);
        due("far behind", x.names(0, Integer.MAX_VALUE, 1), 0);
        due("the row is missing", x.names(1, 0, 1), 0);
        x.row(3, 0, 60);
        x.put(3, 58, 1);
        x.put(3, 59, 1);
        due("up to the end of the longest row", x.names(3, 58, 2), 1);
        due("behind the end of the longest row", x.names(3, 60, 1), 0);
        due("names(0, 0, 0)", x.names(0, 0, 0), -1);
        due("names(0, 0, 21)", x.names(0, 0, 21), -1);
        due("names(6, 0, 1)", x.names(6, 0, 1), -1);
        x.keep(1, 0);
        due("a KEEPER", x.names(1, 0, 1), -12);
        x.row(1, 4, 4);
        due("booleans", x.names(1, 0, 1), -12);
        due("BAD ahead of -12", x.names(1, 0, 0), -1);
        for (int i = x.count(0); i < 39; i++) name(x, "n" + i);
        fill(x, 2, 2, 'n', 'a', 1, 'q', 2, 'n', 'b', 1, 'a');
        due("no room behind the 40th", x.names(2, 0, 20), 1);
        due("count(0)", x.count(0), 40);
        fill(x, 2, 1, 'q', 1, 'a', 1, '?');
        due("those that are there need no room", x.names(2, 0, 20), 0);
    }

    private static void counts() {
        SeatsRound x = house(0, 1);
        name(x, "a");
        table(x, "c 1", 3, 0);
        int first = x.keeperOf(0, 0, 0), other = 1 - first;
        x.knows(other, 0);
        x.write(other, 0);
        x.become(first, 4);
        x.write(other, 0);
        x.write(other, 0);
        x.act(other, 3, 0);
        x.feed(3, 0);
        int[] want = {1, 2, 1, 3, 1, 1, 3, 4};
        for (int w = 0; w < 8; w++) due("count(" + w + ")", x.count(w), want[w]);
        due("count(8)", x.count(8), -1);
        due("count(-1)", x.count(-1), -1);
    }
}
