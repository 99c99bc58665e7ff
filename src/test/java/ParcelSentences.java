/** Sentences on parcels: written, read, kept, woken, fallen, moved by halves, mended, compared; noon and lies: promises 17 to 26. */
final class ParcelSentences extends Desk {
    static void all() {
        writtenAndRead();
        wokenAndFallen();
        movedAndMended();
        comparedAndJudged();
    }

    private static void writtenAndRead() {
        SentenceTests.sentence(17, "Each KEEPER KNOWS a TABLE (-1 at first; told).", ParcelSentences::knowsNoneAtFirst);
        SentenceTests.sentence(17, "A KEEPER KNOWS a TABLE (-1: none): what it knew. VOID: BAD.", ParcelSentences::knowsRefused);
        SentenceTests.sentence(18, "VERSION of the NAME is 1 more (of all writings)", ParcelSentences::oneMoreOfAll);
        SentenceTests.sentence(18, "it comes to each of KEEPERS OF it by that TABLE that is there: not GONE (FALLEN)", ParcelSentences::notToTheFallen);
        SentenceTests.sentence(18, "not FULL with 8 NAMES (or has that NAME)", ParcelSentences::fullWith8);
        SentenceTests.sentence(18, "for one that is ASLEEP it is KEPT by the first KEEPER, in the order PICKED by that TABLE, that is none of them, not ASLEEP, not FALLEN", ParcelSentences::keptByTheFirst);
        SentenceTests.sentence(18, "and doesn't keep that NAME for another one; if there is none, it is not kept.", ParcelSentences::keptForAnotherOne);
        SentenceTests.sentence(18, "How many copies came (KEPT ones too).", ParcelSentences::howManyCame);
        SentenceTests.sentence(18, "BAD; STATE: it KNOWS none, is ASLEEP or FALLEN.", ParcelSentences::writeRefused);
        SentenceTests.sentence(19, "the greatest VERSION that one of KEEPERS OF by that has, who is not ASLEEP and not FALLEN (0: none).", ParcelSentences::greatestRead);
        SentenceTests.sentence(19, "READ. BAD, STATE (likewise).", ParcelSentences::readRefused);
        SentenceTests.sentence(20, "a SHELF of each KEEPER has for each NAME a VERSION (0: none).", ParcelSentences::noneAtFirst);
        SentenceTests.sentence(20, "KEPT by it for another one (1), for whom (2; NOT: none), PIECES of a HALF from it (3). BAD.", ParcelSentences::onAShelf);
    }

    private static void wokenAndFallen() {
        SentenceTests.sentence(6, "WOKEN (a KEEPER becomes of a KIND that is not ASLEEP): all KEPT for it come to its SHELF", ParcelSentences::allKeptCome);
        SentenceTests.sentence(6, "(a lesser VERSION never comes over a greater one)", ParcelSentences::lesserNeverOver);
        SentenceTests.sentence(21, "FALLS (told again: likewise): its SHELF is empty, what it KEPT is gone", ParcelSentences::fallsAgain);
        SentenceTests.sentence(21, "it is FALLEN, till it RISES (by call).", ParcelSentences::tillItRises);
        SentenceTests.sentence(21, "A KEEPER FALLS (1), RISES (0): what it was. BAD.", ParcelSentences::fallRefused);
    }

    private static void movedAndMended() {
        SentenceTests.sentence(22, "a move of a NAME from a KEEPER to another one has 3 PIECES: each call one", ParcelSentences::threePieces);
        SentenceTests.sentence(22, "behind the third one the VERSION that the first one has then comes (if it is greater), and the first one has it no more", ParcelSentences::behindTheThird);
        SentenceTests.sentence(22, "if either is FALLEN or ASLEEP: it is cut: PIECES are 0 again.", ParcelSentences::cut);
        SentenceTests.sentence(22, "(PIECES are of the NAME and the first one; to another one than ahead: anew from 1)", ParcelSentences::anewFrom1);
        SentenceTests.sentence(22, "PIECES (3: it came); 0: it is cut.", ParcelSentences::piecesAnswered);
        SentenceTests.sentence(22, "BAD; NOT: the first one has it not.", ParcelSentences::halfRefused);
        SentenceTests.sentence(23, "of each NAME the greatest VERSION on any SHELF of KEEPERS not FALLEN", ParcelSentences::greatestOnAnyShelf);
        SentenceTests.sentence(23, "comes to all KEEPERS OF it by that TABLE that are not FALLEN and not ASLEEP: how many copies came.", ParcelSentences::mendedCopies);
        SentenceTests.sentence(23, "MENDED. BAD.", ParcelSentences::mendRefused);
    }

    private static void comparedAndJudged() {
        SentenceTests.sentence(24, "leaves 0 .. 7: NAMES by number % 8, each leaf's sum: over its NAMES number + 1 times VERSION", ParcelSentences::leaves);
        SentenceTests.sentence(24, "nodes above are sums of two (1 root, 2, 4, 8 leaves).", ParcelSentences::nodesAbove);
        SentenceTests.sentence(24, "WORDS: 1 for the root; below each node that is unlike both below are asked (2).", ParcelSentences::treeWords);
        SentenceTests.sentence(24, "UNLIKE: how many leaves are.", ParcelSentences::unlike);
        SentenceTests.sentence(24, "TREES: WORDS (what 0), UNLIKE (1). BAD (also one and the same).", ParcelSentences::treesRefused);
        SentenceTests.sentence(25, "ASKS of a NAME told (0 .. 9999)", ParcelSentences::fewestAndMostAsks);
        SentenceTests.sentence(25, "that none has more than a told most (ASKS / many, up): the least many, at most all: NOT if that is too few.", ParcelSentences::leastMany);
        SentenceTests.sentence(25, "NOON: SPREAD (most 0 .. 9999): how many KEEPERS. BAD; NOT.", ParcelSentences::noonRefused);
        SentenceTests.sentence(26, "a KEEPER was LATE told times (0 .. 99) of told turns (1 .. 99)", ParcelSentences::lateAndTurns);
        SentenceTests.sentence(26, "STRENGTH times (turns less LATE) / turns, up, 1 at least", ParcelSentences::trueStrength);
        SentenceTests.sentence(26, "its SEATS too many: 4 times the difference.", ParcelSentences::seatsTooMany);
        SentenceTests.sentence(26, "LIES: TRUE STRENGTH (what 0), SEATS too many (1). BAD (late above turns).", ParcelSentences::liesRefused);
    }

    private static void knowsNoneAtFirst() {
        SeatsRound x = house(0, 1);
        due("at first", x.ofKeeper(0, 4), -1);
        table(x, "c 1", 3, 0);
        due("a TABLE comes, nobody is told", x.ofKeeper(0, 4), -1);
        due("what it knew", x.knows(0, 0), -1);
        due("told", x.ofKeeper(0, 4), 0);
        due("the other one is not", x.ofKeeper(1, 4), -1);
        for (int t = 1; t < 10; t++) table(x, "c 1", 1, t);
        due("what it knew", x.knows(0, 9), 0);
        due("what it knew", x.knows(0, 9), 9);
        due("one that is not in it may know it", x.knows(1, 9), -1);
    }

    private static void knowsRefused() {
        SeatsRound x = house(0);
        due("none, and there is none", x.knows(0, -1), -1);
        due("there is none", x.knows(0, 0), VOID);
        table(x, "c 1", 1, 0);
        x.knows(0, 0);
        for (int t : new int[] {-2, 1, 10, LEAST, MOST}) due("knows(0, " + t + ")", x.knows(0, t), VOID);
        for (int k : new int[] {-1, 1, LEAST, MOST}) due("knows(" + k + ", 0)", x.knows(k, 0), VOID);
        due("it stays", x.ofKeeper(0, 4), 0);
        due("none", x.knows(0, -1), 0);
        due("it KNOWS none", x.ofKeeper(0, 4), -1);
    }

    private static void oneMoreOfAll() {
        SeatsRound x = inOrder("c 1", 0, 1);
        name(x, "b");
        table(x, "c 1", 2, 0);
        x.knows(1, 1);
        x.write(0, 0);
        due("the first", x.onShelf(0, 0, 0), 1);
        x.write(1, 0);
        due("by another one, by another TABLE", x.onShelf(1, 0, 0), 2);
        due("the other SHELF stays", x.onShelf(0, 0, 0), 1);
        x.write(1, 1);
        due("of another NAME", x.onShelf(1, 1, 0), 1);
        x.fall(0, 1);
        x.knows(1, 0);
        due("one that nobody got counts", x.write(1, 0), 0);
        x.fall(0, 0);
        x.write(0, 0);
        due("VERSION", x.onShelf(0, 0, 0), 4);
        due("all writings", x.count(6), 5);
    }

    private static void notToTheFallen() {
        SeatsRound x = inOrder("c 3", 0, 1, 2, 3);
        x.fall(1, 1);
        due("to two of three", x.write(3, 0), 2);
        due("not to the FALLEN one", x.onShelf(1, 0, 0), 0);
        due("nor to the next one", x.onShelf(3, 0, 0), 0);
        due("nobody keeps it", x.count(5), 0);
        x.fall(0, 1);
        x.fall(2, 1);
        due("to none", x.write(3, 0), 0);
        for (int k = 0; k < 3; k++) x.fall(k, 0);
        due("to all three", x.write(3, 0), 3);
        due("VERSION", x.onShelf(1, 0, 0), 3);
        x.become(1, 4);
        x.fall(1, 1);
        due("ASLEEP and FALLEN is GONE", x.write(3, 0), 2);
        due("nobody keeps it", x.count(5), 0);
    }

    private static void fullWith8() {
        for (int kind = 0; kind < 7; kind++) {
            if (kind == 4) continue;
            SeatsRound x = house(0, 1);
            names(x, 10);
            table(x, "c 1", 2, 0);
            x.knows(0, 0);
            x.become(1, kind);
            for (int n = 0; n < 8; n++) due("NAME " + n, x.write(0, n), 1);
            boolean full = kind == 6;
            due("a ninth NAME to KIND " + kind, x.write(0, 8), full ? 0 : 1);
            due("NAMES on its SHELF", x.ofKeeper(1, 5), full ? 8 : 9);
            due("has that NAME", x.write(0, 7), 1);
            due("VERSION", x.onShelf(1, 7, 0), 2);
            x.fall(1, 1);
            x.fall(1, 0);
            due("an empty SHELF has room", x.write(0, 9), 1);
        }
        moreThan8();
    }

    /** Nine NAMES came before it was FULL. */
    private static void moreThan8() {
        SeatsRound x = house(0, 1);
        names(x, 10);
        table(x, "c 1", 2, 0);
        x.knows(0, 0);
        for (int n = 0; n < 9; n++) x.write(0, n);
        x.become(1, 6);
        due("with 9 a tenth", x.write(0, 9), 0);
        due("with 9 one that it has", x.write(0, 8), 1);
        for (int i = 0; i < 3; i++) x.half(8, 1, 0);
        due("with 8 a ninth", x.write(0, 9), 0);
        for (int i = 0; i < 3; i++) x.half(7, 1, 0);
        due("with 7 an eighth", x.write(0, 9), 1);
    }

    private static void dueKept(SeatsRound x, int keeper, int version, int whom) {
        due("VERSION that " + keeper + " keeps", x.onShelf(keeper, 0, 1), version);
        due("for whom " + keeper + " keeps", x.onShelf(keeper, 0, 2), whom);
    }

    private static void keptByTheFirst() {
        SeatsRound x = inOrder("c 2", 0, 1, 2, 3, 4);
        x.keeper(5, 1);
        x.become(0, 4);
        due("kept by the first", x.write(4, 0), 2);
        dueKept(x, 2, 1, 0);
        due("not by one that has it", x.onShelf(1, 0, 1), 0);
        x = inOrder("c 2", 0, 1, 2, 3, 4);
        x.become(1, 4);
        x.become(2, 4);
        due("2 is ASLEEP", x.write(4, 0), 2);
        dueKept(x, 3, 1, 1);
        dueKept(x, 2, 0, NOT);
        x = inOrder("c 2", 0, 1, 2, 3, 4);
        x.become(1, 4);
        x.fall(2, 1);
        x.fall(3, 1);
        due("2 and 3 are FALLEN", x.write(4, 0), 2);
        dueKept(x, 4, 1, 1);
        x = inOrder("c 2", 0, 1, 2);
        x.keeper(5, 1);
        x.knows(3, 0);
        x.become(1, 4);
        x.become(2, 4);
        due("3 is not in the TABLE", x.write(3, 0), 1);
        due("nobody keeps it", x.count(5), 0);
        keptByOneThatIsFull();
        keptByTheLastOfTwelve();
    }

    /** All twelve are in the table: the last one picked keeps it, and if that one may not, nobody does. */
    private static void keptByTheLastOfTwelve() {
        SeatsRound x = house(0, 0, 0, 0, 0, 0, 0, 0, 0, 0, 0, 0);
        name(x, "a");
        table(x, "c 1", 4095, 0);
        int m = x.number(0, 0), first = x.picked(0, m, 0), second = x.picked(0, m, 1), last = x.picked(0, m, 11);
        x.knows(last, 0);
        for (int k = 0; k < 12; k++) if (k != last) x.become(k, 4);
        due("by the last one", x.write(last, 0), 1);
        dueKept(x, last, 1, first);
        x.become(second, 0);
        x.knows(second, 0);
        x.fall(last, 1);
        due("by the second one", x.write(second, 0), 1);
        dueKept(x, second, 2, first);
        table(x, "c 4", 4095, 0);
        x.become(second, 0);
        x.knows(second, 1);
        due("to the second one, and nobody is left for the others", x.write(second, 0), 1);
        due("what is KEPT", x.count(5), 1);
    }

    /** What is KEPT is on no SHELF, so one that is FULL keeps it all the same. */
    private static void keptByOneThatIsFull() {
        SeatsRound x = inOrder("c 1", 0, 1);
        names(x, 8);
        table(x, "c 1", 2, 0);
        x.knows(1, 1);
        for (int n = 1; n < 9; n++) x.write(1, n);
        x.become(1, 6);
        x.become(0, 4);
        x.knows(1, 0);
        due("NAMES of the one that is FULL", x.ofKeeper(1, 5), 8);
        due("it keeps it", x.write(1, 0), 1);
        dueKept(x, 1, 1, 0);
    }

    private static void keptForAnotherOne() {
        SeatsRound x = inOrder("c 2", 0, 1, 2, 3);
        x.become(0, 4);
        x.become(1, 4);
        due("both are kept for", x.write(3, 0), 2);
        dueKept(x, 2, 1, 0);
        dueKept(x, 3, 1, 1);
        due("anew, each for the same one", x.write(3, 0), 2);
        dueKept(x, 2, 2, 0);
        dueKept(x, 3, 2, 1);
        x.fall(2, 1);
        due("3 keeps it for another one, and there is none", x.write(3, 0), 1);
        dueKept(x, 3, 3, 1);
        x.fall(2, 0);
        x.become(1, 0);
        x.become(2, 4);
        due("3 is free again", x.write(3, 0), 2);
        dueKept(x, 3, 4, 0);
        // The same keeper may keep another NAME for another one.
        SeatsRound y = house(0, 1, 2);
        name(y, "a");
        name(y, "b");
        table(y, "c 1", 7, least(z -> isFirst(0, "a", z) && isFirst(1, "b", z)));
        y.knows(2, 0);
        y.become(0, 4);
        y.become(1, 4);
        due("one NAME for one", y.write(2, 0), 1);
        due("another NAME for another one", y.write(2, 1), 1);
        due("for whom", y.onShelf(2, 0, 2), 0);
        due("for whom", y.onShelf(2, 1, 2), 1);
        due("it keeps both", y.ofKeeper(2, 6), 2);
    }

    /** Whether one of three is the first one picked for a name. */
    private static boolean isFirst(int keeper, String text, int z) {
        return round(seated(z, 1, 1, 1), number(text, z)).get(0) == keeper;
    }

    private static void howManyCame() {
        SeatsRound x = inOrder("c 3", 0, 1, 2, 3, 4);
        due("three", x.write(4, 0), 3);
        x.become(0, 4);
        x.become(1, 4);
        due("one, and two are KEPT", x.write(4, 0), 3);
        x.become(2, 4);
        due("two are KEPT, nobody is left for the third", x.write(4, 0), 2);
        x.fall(3, 1);
        due("one is KEPT by who is left", x.write(4, 0), 1);
        for (int k = 0; k < 3; k++) x.fall(k, 1);
        due("none", x.write(4, 0), 0);
        due("all writings", x.count(6), 5);
        due("the most copies", inOrder("c 4", 0, 1, 2, 3, 4).write(4, 0), 4);
    }

    private static void writeRefused() {
        SeatsRound x = inOrder("c 2", 0, 1);
        for (int k : new int[] {-1, 2, LEAST, MOST}) due("write(" + k + ", 0)", x.write(k, 0), BAD);
        for (int n : new int[] {-1, 1, LEAST, MOST}) due("write(0, " + n + ")", x.write(0, n), BAD);
        x.knows(0, -1);
        due("it KNOWS none", x.write(0, 0), STATE);
        due("BAD is named first", x.write(0, 1), BAD);
        x.knows(0, 0);
        x.become(0, 4);
        due("it is ASLEEP", x.write(0, 0), STATE);
        due("BAD is named first", x.write(0, -1), BAD);
        x.become(0, 0);
        x.fall(0, 1);
        due("it is FALLEN", x.write(0, 0), STATE);
        due("BAD is named first", x.write(0, 1), BAD);
        due("no writing", x.count(6), 0);
        x.fall(0, 0);
        due("it is neither", x.write(0, 0), 2);
        due("VERSION", x.onShelf(0, 0, 0), 1);
    }

    private static void greatestRead() {
        SeatsRound x = inOrder("c 3", 0, 1, 2, 3);
        due("none", x.read(3, 0), 0);
        x.write(3, 0);
        x.fall(1, 1);
        x.fall(2, 1);
        x.write(3, 0);
        x.fall(1, 0);
        x.fall(2, 0);
        due("the greatest", x.read(3, 0), 2);
        due("by one that has it", x.read(0, 0), 2);
        x.become(0, 4);
        due("0 is ASLEEP, the others have none", x.read(3, 0), 0);
        x.write(3, 0);
        due("the others have one", x.read(3, 0), 3);
        x.become(0, 0);
        x.fall(1, 1);
        x.fall(2, 1);
        due("what was KEPT came to 0", x.read(3, 0), 3);
        x.fall(0, 1);
        due("all are FALLEN", x.read(3, 0), 0);
        notReadFromTheFallen();
        table(x, "c 1", 8, 0);
        x.knows(3, 1);
        x.write(3, 0);
        due("by that TABLE", x.read(3, 0), 4);
        x.knows(3, 0);
        due("who is none of them is not asked", x.read(3, 0), 0);
    }

    /** One that is FALLEN and has something, as it was WOKEN behind its fall. */
    private static SeatsRound fallenWithAName() {
        SeatsRound x = inOrder("c 1", 0, 1, 2);
        x.become(0, 4);
        x.write(1, 0);
        x.fall(0, 1);
        x.become(0, 0);
        due("it has it", x.onShelf(0, 0, 0), 1);
        due("it is FALLEN still", x.ofKeeper(0, 7), 1);
        return x;
    }

    private static void notReadFromTheFallen() {
        SeatsRound x = fallenWithAName();
        due("one that is FALLEN and has it", x.read(1, 0), 0);
        x.fall(0, 0);
        due("it rose", x.read(1, 0), 1);
    }

    private static void readRefused() {
        SeatsRound x = inOrder("c 2", 0, 1);
        x.write(0, 0);
        for (int k : new int[] {-1, 2, LEAST, MOST}) due("read(" + k + ", 0)", x.read(k, 0), BAD);
        for (int n : new int[] {-1, 1, LEAST, MOST}) due("read(0, " + n + ")", x.read(0, n), BAD);
        x.knows(0, -1);
        due("it KNOWS none", x.read(0, 0), STATE);
        due("BAD is named first", x.read(0, 1), BAD);
        x.knows(0, 0);
        x.become(0, 4);
        due("it is ASLEEP", x.read(0, 0), STATE);
        due("BAD is named first", x.read(0, -1), BAD);
        x.become(0, 0);
        x.fall(0, 1);
        due("it is FALLEN", x.read(0, 0), STATE);
        x.fall(0, 0);
        due("it is neither", x.read(0, 0), 1);
    }

    private static void noneAtFirst() {
        SeatsRound x = house(0, 0, 0, 0, 0, 0, 0, 0, 0, 0, 0, 0);
        names(x, 40);
        for (int k = 0; k < 12; k += 11) {
            for (int n = 0; n < 40; n++) due("onShelf(" + k + ", " + n + ", 0)", x.onShelf(k, n, 0), 0);
            due("NAMES on its SHELF", x.ofKeeper(k, 5), 0);
        }
        table(x, "c 1", 2048, 0);
        x.knows(0, 0);
        for (int n = 0; n < 40; n++) x.write(0, n);
        due("all NAMES on one SHELF", x.ofKeeper(11, 5), 40);
        due("the last one's", x.onShelf(11, 39, 0), 1);
        due("none on the others", x.count(4), 40);
    }

    private static void onAShelf() {
        SeatsRound x = inOrder("c 1", 0, 1);
        x.write(0, 0);
        x.half(0, 0, 1);
        x.half(0, 0, 1);
        due("PIECES", x.onShelf(0, 0, 3), 2);
        due("PIECES to it are not from it", x.onShelf(1, 0, 3), 0);
        due("VERSION", x.onShelf(0, 0, 0), 1);
        x.become(0, 4);
        x.write(1, 0);
        due("KEPT", x.onShelf(1, 0, 1), 2);
        due("for whom: number 0", x.onShelf(1, 0, 2), 0);
        due("what is KEPT is not on its SHELF", x.onShelf(1, 0, 0), 0);
        due("for whom: none", x.onShelf(0, 0, 2), NOT);
        due("KEPT: none", x.onShelf(0, 0, 1), 0);
        for (int what : new int[] {-1, 4, LEAST, MOST}) due("onShelf(0, 0, " + what + ")", x.onShelf(0, 0, what), BAD);
        for (int n : new int[] {-1, 1, LEAST, MOST}) due("onShelf(0, " + n + ", 0)", x.onShelf(0, n, 0), BAD);
        for (int k : new int[] {-1, 2, LEAST, MOST}) due("onShelf(" + k + ", 0, 0)", x.onShelf(k, 0, 0), BAD);
        x.become(0, 0);
        due("for whom: none", x.onShelf(1, 0, 2), NOT);
    }

    private static void allKeptCome() {
        SeatsRound x = house(0, 1);
        names(x, 40);
        int z = 0, first = 0;
        table(x, "c 1", 3, z);
        for (int n = 0; n < 40; n++) if (x.keeperOf(0, n, 0) == 0) first++;
        x.knows(1, 0);
        x.become(0, 4);
        for (int n = 0; n < 40; n++) due("write(1, " + n + ")", x.write(1, n), 1);
        due("some are KEPT", first > 8 ? 1 : 0, 1);
        due("KEPT", x.ofKeeper(1, 6), first);
        x.become(0, 6);
        due("all come, to one that is FULL too", x.ofKeeper(0, 5), first);
        due("none is KEPT", x.count(5), 0);
        // What is KEPT for another one stays.
        SeatsRound y = inOrder("c 2", 0, 1, 2, 3);
        y.become(0, 4);
        y.become(1, 4);
        y.write(3, 0);
        y.become(1, 0);
        due("for the other one", y.onShelf(2, 0, 2), 0);
        due("for the one that woke", y.onShelf(3, 0, 2), NOT);
        due("its VERSION", y.onShelf(1, 0, 0), 1);
        due("the other's VERSION", y.onShelf(0, 0, 0), 0);
    }

    private static void lesserNeverOver() {
        SeatsRound x = inOrder("c 1", 0, 1, 2);
        x.become(0, 4);
        x.become(1, 4);
        x.write(2, 0);
        x.become(1, 0);
        x.write(2, 0);
        dueKept(x, 2, 1, 0);
        dueKept(x, 1, 2, 0);
        due("it is WOKEN", x.become(0, 0), 4);
        due("the greater one, if the lesser one comes later", x.onShelf(0, 0, 0), 2);
        due("none is KEPT", x.count(5), 0);
        x = inOrder("c 1", 0, 1, 2);
        x.become(0, 4);
        x.write(2, 0);
        x.become(1, 4);
        x.write(2, 0);
        dueKept(x, 1, 1, 0);
        dueKept(x, 2, 2, 0);
        x.become(0, 0);
        due("the greater one, if it comes later", x.onShelf(0, 0, 0), 2);
        x = inOrder("c 1", 0, 1);
        x.write(1, 0);
        x.become(0, 4);
        x.write(1, 0);
        x.become(0, 0);
        due("a greater one over a lesser one", x.onShelf(0, 0, 0), 2);
    }

    private static void fallsAgain() {
        SeatsRound x = inOrder("c 2", 0, 1, 2);
        x.write(2, 0);
        x.become(1, 4);
        x.write(2, 0);
        dueKept(x, 2, 2, 1);
        due("FALLS", x.fall(2, 1), 0);
        dueKept(x, 2, 0, NOT);
        due("no other SHELF is empty", x.count(4), 2);
        due("FALLS", x.fall(0, 1), 0);
        due("its SHELF is empty", x.onShelf(0, 0, 0), 0);
        SeatsRound y = fallenWithAName();
        due("told again", y.fall(0, 1), 1);
        due("its SHELF is empty", y.onShelf(0, 0, 0), 0);
        due("it is FALLEN", y.ofKeeper(0, 7), 1);
        // What is KEPT for it is not what it KEPT.
        SeatsRound z = inOrder("c 1", 0, 1);
        z.become(0, 4);
        z.write(1, 0);
        z.fall(0, 1);
        dueKept(z, 1, 1, 0);
    }

    private static void tillItRises() {
        SeatsRound x = inOrder("c 1", 0, 1);
        x.fall(0, 1);
        for (int kind = 6; kind >= 0; kind--) {
            x.become(0, kind);
            due("FALLEN as KIND " + kind, x.ofKeeper(0, 7), 1);
        }
        x.mend(0);
        due("FALLEN when it was MENDED", x.ofKeeper(0, 7), 1);
        due("RISES", x.fall(0, 0), 1);
        due("it rose", x.ofKeeper(0, 7), 0);
        due("its SHELF is empty still", x.onShelf(0, 0, 0), 0);
        due("RISES again", x.fall(0, 0), 0);
        x.write(0, 0);
        x.fall(0, 0);
        due("who RISES loses nothing", x.onShelf(0, 0, 0), 1);
    }

    private static void fallRefused() {
        SeatsRound x = inOrder("c 1", 0, 1);
        x.write(0, 0);
        for (int is : new int[] {-1, 2, LEAST, MOST}) due("fall(0, " + is + ")", x.fall(0, is), BAD);
        for (int k : new int[] {-1, 2, LEAST, MOST}) due("fall(" + k + ", 1)", x.fall(k, 1), BAD);
        due("it did not fall", x.ofKeeper(0, 7), 0);
        due("its SHELF", x.onShelf(0, 0, 0), 1);
    }

    private static void threePieces() {
        SeatsRound x = inOrder("c 1", 0, 1);
        x.write(0, 0);
        for (int i = 1; i < 4; i++) {
            due("VERSION of the first one", x.onShelf(0, 0, 0), 1);
            due("VERSION of the other one", x.onShelf(1, 0, 0), 0);
            due("PIECE", x.half(0, 0, 1), i);
            due("PIECES", x.onShelf(0, 0, 3), i % 3);
        }
        due("VERSION of the first one", x.onShelf(0, 0, 0), 0);
        due("VERSION of the other one", x.onShelf(1, 0, 0), 1);
        due("a fourth", x.half(0, 0, 1), NOT);
        for (int i = 1; i < 4; i++) due("and back", x.half(0, 1, 0), i);
        due("VERSION of the first one", x.onShelf(0, 0, 0), 1);
        for (int i = 1; i < 4; i++) due("anew", x.half(0, 0, 1), i);
    }

    private static void behindTheThird() {
        SeatsRound x = inOrder("c 1", 0, 1);
        x.write(0, 0);
        x.half(0, 0, 1);
        x.write(0, 0);
        x.half(0, 0, 1);
        x.write(0, 0);
        x.half(0, 0, 1);
        due("the VERSION that it has then", x.onShelf(1, 0, 0), 3);
        due("the first one has it no more", x.onShelf(0, 0, 0), 0);
        // The other one has a greater one, then the same one.
        x.write(0, 0);
        table(x, "c 2", 3, 0);
        x.knows(1, 1);
        table(x, "c 1", 2, 0);
        x.knows(0, 2);
        x.write(0, 0);
        due("here the lesser one", x.onShelf(0, 0, 0), 4);
        for (int i = 1; i < 4; i++) due("PIECE", x.half(0, 0, 1), i);
        due("the greater one stays", x.onShelf(1, 0, 0), 5);
        due("the first one has it no more", x.onShelf(0, 0, 0), 0);
        x.write(1, 0);
        for (int i = 1; i < 4; i++) due("PIECE of the same VERSION", x.half(0, 0, 1), i);
        due("the same one stays", x.onShelf(1, 0, 0), 6);
        due("the first one has it no more", x.onShelf(0, 0, 0), 0);
        due("copies", x.count(4), 1);
    }

    private static void cut() {
        for (int pieces = 0; pieces < 3; pieces++) {
            for (int who = 0; who < 2; who++) {
                for (int fallen = 0; fallen <= who; fallen++) {
                    SeatsRound x = inOrder("c 1", 0, 1);
                    x.write(0, 0);
                    for (int i = 0; i < pieces; i++) x.half(0, 0, 1);
                    if (fallen == 1) x.fall(who, 1);
                    else x.become(who, 4);
                    due("it is cut", x.half(0, 0, 1), 0);
                    due("PIECES", x.onShelf(0, 0, 3), 0);
                    due("the first one has it", x.onShelf(0, 0, 0), 1);
                    due("the other one has it not", x.onShelf(1, 0, 0), 0);
                    due("it is cut again", x.half(0, 0, 1), 0);
                    if (fallen == 1) x.fall(who, 0);
                    else x.become(who, 0);
                    for (int i = 1; i < 4; i++) due("anew", x.half(0, 0, 1), i);
                }
            }
        }
        SeatsRound y = fallenWithAName();
        due("the first one is FALLEN", y.half(0, 0, 1), 0);
        y.fall(0, 0);
        due("it rose", y.half(0, 0, 1), 1);
        y.become(2, 4);
        due("cut to a third one", y.half(0, 0, 2), 0);
        due("PIECES", y.onShelf(0, 0, 3), 0);
        due("anew", y.half(0, 0, 1), 1);
    }

    private static void anewFrom1() {
        SeatsRound x = inOrder("c 2", 0, 1, 2, 3);
        name(x, "b");
        table(x, "c 4", 15, 0);
        x.knows(0, 1);
        x.write(0, 0);
        x.write(0, 1);
        due("to 2", x.half(0, 0, 2), 1);
        due("of another NAME", x.half(1, 0, 2), 1);
        due("from another one", x.half(0, 1, 2), 1);
        due("to 2", x.half(0, 0, 2), 2);
        due("to 3: anew", x.half(0, 0, 3), 1);
        due("of another NAME", x.half(1, 0, 2), 2);
        due("from another one", x.half(0, 1, 2), 2);
        due("to 2: anew", x.half(0, 0, 2), 1);
        due("to 2", x.half(0, 0, 2), 2);
        due("of another NAME", x.half(1, 0, 2), 3);
        due("from another one", x.half(0, 1, 2), 3);
        due("to 2", x.half(0, 0, 2), 3);
        SeatsRound y = inOrder("c 1", 0, 1);
        y.write(0, 0);
        due("to number 0, the first of all", y.half(0, 0, 1) + y.half(0, 0, 1) + y.half(0, 0, 1), 6);
        due("to number 0", y.half(0, 1, 0), 1);
        due("to number 0", y.half(0, 1, 0), 2);
    }

    private static void piecesAnswered() {
        SeatsRound x = inOrder("c 1", 0, 1, 2);
        x.write(0, 0);
        int[][] calls = {{1, 0, 1}, {1, 0, 2}, {1, 4, 0}, {1, 0, 1}, {1, 0, 2}, {1, 0, 3}};
        for (int[] c : calls) {
            x.become(1, c[1]);
            due("half(0, 0, 1), the other one of KIND " + c[1], x.half(0, 0, c[0]), c[2]);
            due("PIECES", x.onShelf(0, 0, 3), c[2] % 3);
        }
        due("it came", x.onShelf(1, 0, 0), 1);
    }

    private static void halfRefused() {
        SeatsRound x = inOrder("c 1", 0, 1, 2);
        x.write(0, 0);
        x.half(0, 0, 1);
        x.half(0, 0, 1);
        for (int n : new int[] {-1, 1, LEAST, MOST}) due("half(" + n + ", 0, 1)", x.half(n, 0, 1), BAD);
        for (int k : new int[] {-1, 3, LEAST, MOST}) {
            due("half(0, " + k + ", 1)", x.half(0, k, 1), BAD);
            due("half(0, 0, " + k + ")", x.half(0, 0, k), BAD);
        }
        due("to itself", x.half(0, 0, 0), BAD);
        due("to itself, and it has it not: BAD is named first", x.half(0, 1, 1), BAD);
        due("it has it not: NOT; the other one is none: BAD", x.half(0, 1, 3), BAD);
        due("it has it not", x.half(0, 1, 0), NOT);
        x.become(1, 4);
        due("it has it not, and is ASLEEP", x.half(0, 1, 0), NOT);
        x.become(1, 0);
        due("PIECES", x.onShelf(0, 0, 3), 2);
        due("the third", x.half(0, 0, 1), 3);
        due("the first one has it not", x.half(0, 0, 1), NOT);
    }

    private static void greatestOnAnyShelf() {
        SeatsRound x = inOrder("c 1", 0, 1, 2, 3);
        table(x, "c 2", 3, 0);
        table(x, "c 1", 8, 0);
        x.write(3, 0);
        x.knows(3, 2);
        x.write(3, 0);
        due("from one that is not in the TABLE", x.mend(1), 2);
        due("over a lesser one", x.onShelf(0, 0, 0), 2);
        due("where none was", x.onShelf(1, 0, 0), 2);
        x.write(3, 0);
        x.become(3, 4);
        due("from one that is ASLEEP", x.mend(1), 2);
        due("VERSION", x.onShelf(1, 0, 0), 3);
        SeatsRound y = fallenWithAName();
        table(y, "c 3", 7, 0);
        due("not from one that is FALLEN", y.mend(1), 0);
        y.fall(0, 0);
        due("it rose", y.mend(1), 2);
        SeatsRound z = inOrder("c 1", 0, 1, 2);
        table(z, "c 3", 7, 0);
        z.become(0, 4);
        z.write(1, 0);
        due("what is KEPT is on no SHELF", z.mend(1), 0);
        due("it is KEPT still", z.count(5), 1);
    }

    private static void mendedCopies() {
        SeatsRound x = house(0, 1, 2, 3, 4);
        names(x, 40);
        table(x, "c 1", 1, 0);
        table(x, "c 4", 30, 0);
        due("nothing is there", x.mend(1), 0);
        x.knows(0, 0);
        for (int n = 0; n < 40; n++) x.write(0, n);
        x.fall(2, 1);
        x.become(3, 4);
        due("not to the FALLEN one, not to the sleeper", x.mend(1), 80);
        due("the FALLEN one", x.ofKeeper(2, 5), 0);
        due("the sleeper", x.ofKeeper(3, 5), 0);
        x.fall(2, 0);
        x.become(3, 6);
        due("all, and 8 to the one that is FULL", x.mend(1), 48);
        due("the first ones by number", x.onShelf(3, 7, 0), 1);
        due("no ninth", x.onShelf(3, 8, 0), 0);
        due("nothing more", x.mend(1), 0);
        x.write(0, 7);
        due("what one that is FULL has comes", x.mend(1), 4);
        x.become(3, 0);
        due("no more FULL", x.mend(1), 32);
        due("all copies", x.count(4), 200);
        for (int k = 1; k < 5; k++) x.fall(k, 1);
        for (int k = 1; k < 5; k++) x.fall(k, 0);
        due("the most", x.mend(1), 160);
        due("writings are not mendings", x.count(6), 41);
    }

    private static void mendRefused() {
        SeatsRound x = house(0);
        due("no TABLE", x.mend(0), BAD);
        table(x, "c 1", 1, 0);
        for (int t : new int[] {-1, 1, LEAST, MOST}) due("mend(" + t + ")", x.mend(t), BAD);
        due("no NAMES", x.mend(0), 0);
    }

    /** Keepers 0 and 1, each with a table of its own that it knows. */
    private static SeatsRound apart(int many) {
        SeatsRound x = house(0, 1);
        names(x, many);
        table(x, "c 1", 1, 0);
        table(x, "c 1", 2, 0);
        x.knows(0, 0);
        x.knows(1, 1);
        return x;
    }

    private static void leaves() {
        SeatsRound x = apart(40);
        for (int i = 0; i < 8; i++) x.write(0, 0);
        x.write(1, 8);
        due("1 * VERSION 8 here, 9 * VERSION 1 there", x.trees(0, 1, 1), 1);
        x.write(0, 0);
        due("1 * VERSION 9 here, 9 * VERSION 1 there", x.trees(0, 1, 1), 0);
        due("nothing is unlike", x.trees(0, 1, 0), 1);
        x.write(1, 39);
        due("NAME 39 is in leaf 7", x.trees(0, 1, 1), 1);
        for (int i = 0; i < 5; i++) x.write(0, 7);
        due("8 * VERSION 5 here, 40 * VERSION 1 there", x.trees(0, 1, 1), 0);
        x.write(0, 31);
        due("NAME 31 is in leaf 7", x.trees(0, 1, 1), 1);
        x.write(0, 32);
        due("NAME 32 is in leaf 0", x.trees(0, 1, 1), 2);
    }

    private static void nodesAbove() {
        // Two leaves are unlike, the least node above both is alike by chance; then one more leaf, and the words behind it.
        int[][] chances = {{2, 4, 3, 3, 0, 7}, {1, 3, 2, 2, 7, 7}, {3, 8, 7, 4, 0, 13}};
        for (int[] c : chances) {
            SeatsRound x = apart(8);
            for (int i = 0; i < c[1]; i++) x.write(0, c[0]);
            for (int i = 0; i < c[3]; i++) x.write(1, c[2]);
            due("leaves " + c[0] + " and " + c[2], x.trees(0, 1, 1), 2);
            due("a root that is alike", x.trees(0, 1, 0), 1);
            x.write(0, c[4]);
            due("and leaf " + c[4], x.trees(0, 1, 1), 3);
            due("a root that is unlike", x.trees(0, 1, 0), c[5]);
        }
    }

    private static void treeWords() {
        int[] want = {1, 7, 7, 9, 9, 13, 13, 15, 15};
        // Leaves in the order 0, 1, 2 .. get unlike one by one: 4, 4 and 8 leaves below each node above.
        SeatsRound x = apart(8);
        due("no leaf", x.trees(0, 1, 0), want[0]);
        for (int leaf = 0; leaf < 8; leaf++) {
            x.write(0, leaf);
            due("leaves 0 to " + leaf, x.trees(0, 1, 0), want[leaf + 1]);
            due("asked by the other one", x.trees(1, 0, 0), want[leaf + 1]);
        }
        SeatsRound y = apart(8);
        y.write(0, 7);
        due("the last leaf", y.trees(0, 1, 0), 7);
        y.write(0, 0);
        due("the first and the last leaf", y.trees(0, 1, 0), 11);
        // The root is alike by chance: 1 * 2 here, 2 * 1 there; then a node below it.
        SeatsRound z = apart(8);
        z.write(0, 0);
        z.write(0, 0);
        z.write(1, 1);
        due("a root that is alike", z.trees(0, 1, 0), 1);
        z.write(0, 7);
        due("a node of two leaves that is alike", z.trees(0, 1, 0), 7);
    }

    private static void unlike() {
        SeatsRound x = apart(16);
        due("none", x.trees(0, 1, 1), 0);
        for (int leaf = 0; leaf < 8; leaf++) {
            x.write(leaf % 2, leaf);
            due("leaves 0 to " + leaf, x.trees(0, 1, 1), leaf + 1);
        }
        for (int n = 8; n < 16; n++) x.write(0, n);
        due("all of 8", x.trees(0, 1, 1), 8);
    }

    private static void treesRefused() {
        SeatsRound x = apart(1);
        due("one and the same", x.trees(0, 0, 0), BAD);
        due("one and the same", x.trees(1, 1, 1), BAD);
        for (int what : new int[] {-1, 2, LEAST, MOST}) due("trees(0, 1, " + what + ")", x.trees(0, 1, what), BAD);
        for (int k : new int[] {-1, 2, LEAST, MOST}) {
            due("trees(" + k + ", 0, 0)", x.trees(k, 0, 0), BAD);
            due("trees(0, " + k + ", 0)", x.trees(0, k, 0), BAD);
        }
        x.fall(0, 1);
        x.become(1, 4);
        due("FALLEN and ASLEEP ones are compared", x.trees(0, 1, 0), 1);
    }

    private static SeatsRound twelve() {
        SeatsRound x = house(0, 0, 0, 0, 0, 0, 0, 0, 0, 0, 0, 0);
        table(x, "c 1", 4095, 0);
        table(x, "c 1", 16, 0);
        return x;
    }

    private static void fewestAndMostAsks() {
        SeatsRound x = twelve();
        due("no ASKS", x.noon(0, 0, 0), 1);
        due("no ASKS", x.noon(0, 0, 9999), 1);
        due("the most ASKS", x.noon(0, 9999, 9999), 1);
        due("the most ASKS", x.noon(0, 9999, 9998), 2);
        due("one ASK", x.noon(0, 1, 1), 1);
    }

    private static void leastMany() {
        SeatsRound x = twelve();
        due("none has any", x.noon(0, 1, 0), NOT);
        due("12 / 1", x.noon(0, 12, 12), 1);
        due("13 / 2, up, is 7", x.noon(0, 13, 7), 2);
        due("13 / 2, up, is more than 6", x.noon(0, 13, 6), 3);
        due("12 / 12", x.noon(0, 12, 1), 12);
        due("13 / 12, up, is 2", x.noon(0, 13, 1), NOT);
        due("9999 / 12, up, is 834", x.noon(0, 9999, 834), 12);
        due("9999 / 12, up, is more than 833", x.noon(0, 9999, 833), NOT);
        due("one KEEPER alone", x.noon(1, 7, 7), 1);
        due("one KEEPER alone", x.noon(1, 8, 7), NOT);
        due("no ASKS of one alone", x.noon(1, 0, 0), 1);
    }

    private static void noonRefused() {
        SeatsRound x = twelve();
        for (int a : new int[] {-1, 10000, LEAST, MOST}) {
            due("noon(0, " + a + ", 1)", x.noon(0, a, 1), BAD);
            due("noon(0, 1, " + a + ")", x.noon(0, 1, a), BAD);
            due("noon(0, " + a + ", 0)", x.noon(0, a, 0), BAD);
        }
        for (int t : new int[] {-1, 2, LEAST, MOST}) {
            due("noon(" + t + ", 1, 1)", x.noon(t, 1, 1), BAD);
            due("noon(" + t + ", 1, 0): BAD is named first", x.noon(t, 1, 0), BAD);
        }
    }

    private static void lateAndTurns() {
        SeatsRound x = house(0);
        x.strength(0, 8);
        due("never of one", x.lies(0, 0, 1, 0), 8);
        due("once of one", x.lies(0, 1, 1, 0), 1);
        due("never of 99", x.lies(0, 0, 99, 0), 8);
        due("99 of 99", x.lies(0, 99, 99, 0), 1);
        due("98 of 98", x.lies(0, 98, 98, 0), 1);
        for (int late : new int[] {-1, 100, LEAST, MOST}) due("lies(0, " + late + ", 99, 0)", x.lies(0, late, 99, 0), BAD);
        for (int turns : new int[] {0, -1, 100, LEAST, MOST}) due("lies(0, 0, " + turns + ", 0)", x.lies(0, 0, turns, 0), BAD);
        due("100 of 100", x.lies(0, 100, 100, 0), BAD);
    }

    private static void trueStrength() {
        SeatsRound x = house(0);
        int[][] want = {
            {8, 1, 99, 8}, {8, 12, 99, 8}, {8, 13, 99, 7}, {8, 98, 99, 1}, {8, 86, 99, 2}, {8, 87, 99, 1}, {8, 1, 8, 7}, {8, 7, 8, 1},
            {8, 8, 8, 1}, {1, 0, 1, 1}, {1, 1, 1, 1}, {1, 98, 99, 1}, {1, 99, 99, 1}, {3, 1, 2, 2}, {3, 1, 3, 2}, {3, 30, 90, 2}, {4, 30, 90, 3}};
        for (int[] w : want) {
            x.strength(0, w[0]);
            due("STRENGTH " + w[0] + ", " + w[1] + " of " + w[2], x.lies(0, w[1], w[2], 0), w[3]);
            due("SEATS too many", x.lies(0, w[1], w[2], 1), 4 * (w[0] - w[3]));
        }
    }

    private static void seatsTooMany() {
        SeatsRound x = house(0);
        due("the fewest", x.lies(0, 0, 99, 1), 0);
        due("STRENGTH 1 is never too many", x.lies(0, 99, 99, 1), 0);
        x.strength(0, 8);
        due("none", x.lies(0, 0, 1, 1), 0);
        due("the most", x.lies(0, 1, 1, 1), 28);
        due("4 for one", x.lies(0, 1, 8, 1), 4);
        x.become(0, 6);
        due("4 times, whatever counts twice", x.lies(0, 1, 1, 1), 28);
    }

    private static void liesRefused() {
        SeatsRound x = house(0);
        due("late above turns", x.lies(0, 2, 1, 0), BAD);
        due("late above turns", x.lies(0, 99, 98, 1), BAD);
        due("late as turns", x.lies(0, 98, 98, 1), 0);
        for (int what : new int[] {-1, 2, LEAST, MOST}) due("lies(0, 0, 1, " + what + ")", x.lies(0, 0, 1, what), BAD);
        for (int k : new int[] {-1, 1, LEAST, MOST}) due("lies(" + k + ", 0, 1, 0)", x.lies(k, 0, 1, 0), BAD);
    }
}
