/** Sentences on names, numbers, keepers and kinds: promises 1 to 8. */
final class NameSentences extends Desk {
    private static final int[] TURNINGS = {0, 1, -1, LEAST, MOST, 5, -9};

    static void all() {
        SentenceTests.sentence(1, "No names, no keepers, no tables.", NameSentences::aNewObject);
        SentenceTests.sentence(1, "BAD (-1): no such number, or it is not as said; NOT (-2): as told; FULL (-3); STATE (-5): as told; -11 to -14. VOID is -2000000000.", NameSentences::constants);
        SentenceTests.sentence(1, "All memory is the class's own.", NameSentences::ownMemory);
        SentenceTests.sentence(2, "n (1 .. 4) bytes come to THE TAPE, the lowest of v first: how many it has.", NameSentences::fedBytes);
        SentenceTests.sentence(2, "THE TAPE (at most 80 bytes)", NameSentences::tapeOf80);
        SentenceTests.sentence(2, "BAD, FULL.", NameSentences::fedTooMuch);
        SentenceTests.sentence(3, "THE TAPE (1 to 6 bytes) is a NAME: its number (also of one that there is); THE TAPE is empty then.", NameSentences::nameOfTape);
        SentenceTests.sentence(3, "BAD, FULL (it stays).", NameSentences::nameRefused);
        SentenceTests.sentence(3, "NAMES 0 .. 39, as they come (no two alike).", NameSentences::fortyNames);
        SentenceTests.sentence(4, "NUMBER of a NAME (1 to 6 bytes) by z: v = z; for each byte b (0 .. 255): v = (v ^ b) * 16777619 (an int that wraps)", NameSentences::numberOfBytes);
        SentenceTests.sentence(4, "then (v >>> 7) % 1000: a place of THE RING 0 .. 999.", NameSentences::endsOfTheRing);
        SentenceTests.sentence(4, "NUMBER of a NAME by a TURNING. BAD.", NameSentences::numberRefused);
        SentenceTests.sentence(4, "1 TURNING z (any int, told of each TABLE).", NameSentences::anyTurning);
        SentenceTests.sentence(5, "KEEPERS 0 .. 11, as they come", NameSentences::twelveKeepers);
        SentenceTests.sentence(5, "A KEEPER (KIND 0): its number. BAD, FULL.", NameSentences::keeperRefused);
        SentenceTests.sentence(5, "each has a STREET 0 .. 5, a STRENGTH 1 .. 8", NameSentences::streetsAndStrengths);
        SentenceTests.sentence(6, "A KEEPER is of a KIND (0 .. 6): what it was. BAD.", NameSentences::kindsToldAnew);
        SentenceTests.sentence(6, "(WOKEN, if it was ASLEEP.)", NameSentences::wokenOnlyFromSleep);
        SentenceTests.sentence(7, "STRENGTH of a KEEPER becomes v: what it was. BAD.", NameSentences::strengthsToldAnew);
        SentenceTests.sentence(8, "(twice that counts for STRONG, FULL)", NameSentences::strengthThatCounts);
        SentenceTests.sentence(8, "4 the TABLE that it KNOWS (-1), 5 NAMES on its SHELF, 6 how many it KEEPS for others, 7 FALLEN (1, 0). VOID: BAD.", NameSentences::ofAKeeper);
    }

    private static void aNewObject() {
        SeatsRound x = new SeatsRound();
        for (int what = 0; what < 8; what++) due("count(" + what + ")", x.count(what), 0);
        due("number(0, 0)", x.number(0, 0), BAD);
        due("ofKeeper(0, 0)", x.ofKeeper(0, 0), VOID);
        due("ofTable(0, 0)", x.ofTable(0, 0), BAD);
        due("table(1, 0)", x.table(1, 0), BAD);
        due("comes(0)", x.comes(0), BAD);
        due("harm(0)", x.harm(0), BAD);
        due("ordered(0)", x.ordered(0), BAD);
        due("harmed()", x.harmed(), BAD);
        due("trace(0)", x.trace(0), BAD);
        for (int shelf = 0; shelf < 6; shelf++) due("taken(" + shelf + ", 0)", x.taken(shelf, 0), NOTHING);
    }

    private static void constants() {
        due("BAD", SeatsRound.BAD, -1);
        due("NOT", SeatsRound.NOT, -2);
        due("FULL", SeatsRound.FULL, -3);
        due("STATE", SeatsRound.STATE, -5);
        due("VOID", SeatsRound.VOID, -2000000000);
    }

    /** Nothing that is done to one object is seen by another one. */
    private static void ownMemory() {
        SeatsRound one = inOrder("c 1", 0, 1), other = new SeatsRound();
        one.write(0, 0);
        one.half(0, 0, 1);
        one.comes(0);
        one.turning(1);
        one.act(0, 3, 1);
        fill(one, 0, 1, 'x');
        one.feed(2, 0);
        for (int what = 0; what < 8; what++) due("count(" + what + ") of the other one", other.count(what), 0);
        due("its SHELF", other.taken(0, 0), NOTHING);
        due("its TRACE", other.trace(0), BAD);
        due("its TURNINGS", other.turning(1), 1);
        due("its first KEEPER", other.keeper(5, 8), 0);
        due("its first NAME", name(other, "b"), 0);
        due("its first TABLE", table(other, "c 4;s 4;p 2", 1, 5), 0);
        due("its KEEPER for ORDER", other.comes(0), 1);
        due("its VERSION", other.onShelf(0, 0, 0), 0);
        other.knows(0, 0);
        for (int i = 0; i < 3; i++) other.write(0, 0);
        other.fall(0, 1);
        other.row(0, 3, 60);
        due("the first one's NAME", one.number(0, 7), number("a", 7));
        due("the first one's STRENGTH", one.ofKeeper(0, 2), 1);
        due("the first one's COPIES", one.ofTable(0, 2), 1);
        due("the first one's VERSION", one.onShelf(0, 0, 0), 1);
        due("the first one's PIECES", one.half(0, 0, 1), 2);
        due("the first one's ROW", one.element(0, 1), 'x');
        due("the first one's TRACE", one.count(7), 4);
        due("the first one's TAPE", one.count(3), 2);
        due("the first one's TURNINGS", one.turning(2), 2);
        due("the first one's KEEPERS for ORDER", one.comes(1), 2);
    }

    private static void fedBytes() {
        String four = "abc" + (char) 255;
        int v = 'a' | 'b' << 8 | 'c' << 16 | 255 << 24;
        for (int n = 1; n <= 4; n++) {
            SeatsRound x = new SeatsRound();
            due("feed(" + n + ", v)", x.feed(n, v), n);
            due("the tape's name", x.name(), 0);
            due("is of the lowest bytes", x.number(0, 3), number(four.substring(0, n), 3));
        }
        SeatsRound x = new SeatsRound();
        x.feed(1, 'a');
        due("one more", x.feed(2, 'b' | 'c' << 8), 3);
        x.name();
        due("behind those that came ahead", x.number(0, 3), number("abc", 3));
    }

    private static void tapeOf80() {
        SeatsRound x = new SeatsRound();
        for (int i = 1; i <= 20; i++) due("feed(4, 0)", x.feed(4, 0), 4 * i);
        due("count(3)", x.count(3), 80);
        for (int n = 1; n <= 4; n++) due("feed(" + n + ", 0) at 80", x.feed(n, 0), FULL);
        due("count(3)", x.count(3), 80);
        for (int n = 1; n <= 4; n++) {
            SeatsRound y = new SeatsRound();
            for (int i = 0; i < 19; i++) y.feed(4, 0);
            y.feed(n, 0);
            due("more than is left", y.feed(5 - n, 0), FULL);
            if (n < 4) due("what is left", y.feed(4 - n, 0), 80);
        }
    }

    private static void fedTooMuch() {
        SeatsRound x = new SeatsRound();
        for (int n : new int[] {0, 5, -1, LEAST, MOST}) due("feed(" + n + ", 0)", x.feed(n, 0), BAD);
        due("count(3)", x.count(3), 0);
        for (int i = 0; i < 20; i++) x.feed(4, 0);
        for (int n : new int[] {0, 5, -1, LEAST, MOST}) due("feed(" + n + ", 0) at 80: BAD is named first", x.feed(n, 0), BAD);
    }

    private static void nameOfTape() {
        SeatsRound x = new SeatsRound();
        due("1 byte", name(x, "a"), 0);
        due("6 bytes", name(x, "abcdef"), 1);
        due("THE TAPE", x.count(3), 0);
        due("one that there is", name(x, "a"), 0);
        due("THE TAPE", x.count(3), 0);
        due("one that there is", name(x, "abcdef"), 1);
        due("a byte of 0 is a byte", name(x, "a" + (char) 0), 2);
        due("a byte of 0 alone", name(x, "" + (char) 0), 3);
        due("two of them", name(x, "" + (char) 0 + (char) 0), 4);
        due("another last byte", name(x, "abcdeg"), 5);
        due("how many", x.count(0), 6);
    }

    private static void nameRefused() {
        SeatsRound x = new SeatsRound();
        due("of nothing", x.name(), BAD);
        feed(x, "abcdefg");
        due("of 7 bytes", x.name(), BAD);
        due("it stays", x.count(3), 7);
        for (int i = 0; i < 18; i++) x.feed(4, 0);
        x.feed(1, 0);
        due("of 80 bytes", x.name(), BAD);
        due("it stays", x.count(3), 80);
        SeatsRound y = new SeatsRound();
        names(y, 40);
        feed(y, "more");
        due("no room", y.name(), FULL);
        due("it stays", y.count(3), 4);
        feed(y, "abc");
        due("7 bytes: BAD is named first", y.name(), BAD);
        SeatsRound z = new SeatsRound();
        names(z, 40);
        due("nothing: BAD is named first", z.name(), BAD);
    }

    private static void fortyNames() {
        SeatsRound x = new SeatsRound();
        for (int i = 0; i < 40; i++) due("as they come", name(x, "n" + i), i);
        due("one that there is needs no room", name(x, "n39"), 39);
        due("nor does the first one", name(x, "n0"), 0);
        due("how many", x.count(0), 40);
        due("number(39, 7)", x.number(39, 7), number("n39", 7));
        due("a 41st", name(x, "n40"), FULL);
        due("how many", x.count(0), 40);
    }

    private static void numberOfBytes() {
        char[] ends = {0, 1, 127, 128, 255};
        SeatsRound x = new SeatsRound();
        int many = 0;
        for (char b : ends) {
            for (String text : new String[] {"" + b, "abcde" + b}) {
                due("the name", name(x, text), many);
                for (int z : TURNINGS) due("number(" + many + ", " + z + ")", x.number(many, z), number(text, z));
                many++;
            }
        }
        // As ../shared/tests/SeatsRoundRuns.java has it.
        name(x, "ann");
        due("ann by 5", x.number(many, 5), 846);
        due("ann by -9", x.number(many, -9), 943);
    }

    private static void endsOfTheRing() {
        SeatsRound x = new SeatsRound();
        name(x, "a");
        for (int place : new int[] {0, 999}) {
            int z = least(v -> number("a", v) == place && (v ^ 'a') * 16777619 >= 0);
            due("number(0, " + z + ")", x.number(0, z), place);
            // The product's highest bit is set: >>> and >> part here.
            z = least(v -> number("a", v) == place && (v ^ 'a') * 16777619 < 0);
            due("number(0, " + z + ")", x.number(0, z), place);
        }
    }

    private static void numberRefused() {
        SeatsRound x = new SeatsRound();
        due("no names", x.number(0, 0), BAD);
        names(x, 2);
        for (int name : new int[] {-1, 2, LEAST, MOST}) due("number(" + name + ", 0)", x.number(name, 0), BAD);
        due("the greatest", x.number(1, 0), number("n1", 0));
    }

    private static void anyTurning() {
        SeatsRound x = house(0);
        name(x, "a");
        int t = 0;
        for (int z : TURNINGS) {
            due("a table by " + z, table(x, "c 1", 1, z), t);
            int[] at = seated(z, 1);
            for (int p = 0; p < 1000; p++) if (at[p] == 0) due("seat(" + t + ", " + p + ")", x.seat(t, p), 0);
            t++;
        }
    }

    private static void twelveKeepers() {
        SeatsRound x = new SeatsRound();
        for (int k = 0; k < 12; k++) due("as they come", x.keeper(k % 6, 1 + k % 8), k);
        due("a 13th", x.keeper(0, 1), FULL);
        due("how many", x.count(1), 12);
        for (int k = 0; k < 12; k++) {
            due("KIND", x.ofKeeper(k, 0), 0);
            due("STREET", x.ofKeeper(k, 1), k % 6);
            due("STRENGTH", x.ofKeeper(k, 2), 1 + k % 8);
        }
    }

    private static void keeperRefused() {
        SeatsRound x = new SeatsRound();
        int[][] bad = {{-1, 1}, {6, 1}, {LEAST, 1}, {MOST, 1}, {0, 0}, {0, 9}, {0, -1}, {0, LEAST}, {0, MOST}};
        for (int[] b : bad) due("keeper(" + b[0] + ", " + b[1] + ")", x.keeper(b[0], b[1]), BAD);
        due("how many", x.count(1), 0);
        for (int k = 0; k < 12; k++) x.keeper(0, 1);
        for (int[] b : bad) due("keeper(" + b[0] + ", " + b[1] + ") of 12: BAD is named first", x.keeper(b[0], b[1]), BAD);
    }

    private static void streetsAndStrengths() {
        SeatsRound x = new SeatsRound();
        due("the least", x.keeper(0, 1), 0);
        due("the greatest", x.keeper(5, 8), 1);
        due("STREET", x.ofKeeper(0, 1), 0);
        due("STRENGTH", x.ofKeeper(0, 2), 1);
        due("STREET", x.ofKeeper(1, 1), 5);
        due("STRENGTH", x.ofKeeper(1, 2), 8);
    }

    private static void kindsToldAnew() {
        SeatsRound x = house(0, 0);
        int was = 0;
        for (int kind : new int[] {6, 5, 4, 3, 2, 1, 0, 0, 4, 4, 6}) {
            due("become(1, " + kind + ")", x.become(1, kind), was);
            due("KIND", x.ofKeeper(1, 0), kind);
            was = kind;
        }
        for (int kind : new int[] {-1, 7, LEAST, MOST}) due("become(1, " + kind + ")", x.become(1, kind), BAD);
        for (int k : new int[] {-1, 2, LEAST, MOST}) due("become(" + k + ", 0)", x.become(k, 0), BAD);
        due("KIND stays", x.ofKeeper(1, 0), 6);
        due("the other's too", x.ofKeeper(0, 0), 0);
    }

    private static void wokenOnlyFromSleep() {
        for (int kind = 0; kind < 7; kind++) {
            SeatsRound x = inOrder("c 1", 0, 0);
            x.become(0, 4);
            x.write(1, 0);
            due("become(0, " + kind + ")", x.become(0, kind), 4);
            due("KEPT", x.count(5), kind == 4 ? 1 : 0);
            due("VERSION", x.onShelf(0, 0, 0), kind == 4 ? 0 : 1);
        }
    }

    private static void strengthsToldAnew() {
        SeatsRound x = house(0, 0);
        due("strength(1, 8)", x.strength(1, 8), 1);
        due("strength(1, 1)", x.strength(1, 1), 8);
        due("strength(1, 1) again", x.strength(1, 1), 1);
        for (int v : new int[] {0, 9, -1, LEAST, MOST}) due("strength(1, " + v + ")", x.strength(1, v), BAD);
        for (int k : new int[] {-1, 2, LEAST, MOST}) due("strength(" + k + ", 1)", x.strength(k, 1), BAD);
        due("STRENGTH stays", x.ofKeeper(1, 2), 1);
    }

    private static void strengthThatCounts() {
        SeatsRound x = house(0);
        int[] times = {1, 2, 1, 1, 1, 1, 2};
        for (int strength : new int[] {1, 8}) {
            x.strength(0, strength);
            for (int kind = 0; kind < 7; kind++) {
                x.become(0, kind);
                due("KIND " + kind, x.ofKeeper(0, 3), strength * times[kind]);
                due("STRENGTH of KIND " + kind, x.ofKeeper(0, 2), strength);
            }
        }
    }

    private static void ofAKeeper() {
        SeatsRound x = inOrder("c 1", 3, 4);
        int[] first = {0, 3, 1, 1, 0, 0, 0, 0};
        for (int what = 0; what < 8; what++) due("ofKeeper(0, " + what + ")", x.ofKeeper(0, what), first[what]);
        x.write(0, 0);
        x.become(0, 4);
        x.write(1, 0);
        x.knows(1, -1);
        x.fall(0, 1);
        x.fall(0, 0);
        due("it KNOWS none", x.ofKeeper(1, 4), -1);
        due("it KEEPS one", x.ofKeeper(1, 6), 1);
        due("none of its own", x.ofKeeper(1, 5), 0);
        due("its SHELF is empty", x.ofKeeper(0, 5), 0);
        due("it rose", x.ofKeeper(0, 7), 0);
        x.become(0, 0);
        due("handed back", x.ofKeeper(0, 5), 1);
        due("it KEEPS none", x.ofKeeper(1, 6), 0);
        x.fall(1, 1);
        due("it fell", x.ofKeeper(1, 7), 1);
        for (int what : new int[] {-1, 8, LEAST, MOST}) due("ofKeeper(0, " + what + ")", x.ofKeeper(0, what), VOID);
        for (int k : new int[] {-1, 2, LEAST, MOST}) due("ofKeeper(" + k + ", 0)", x.ofKeeper(k, 0), VOID);
    }
}
