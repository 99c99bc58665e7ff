/** Sentences on tables, seats, laws and their fault, who is picked and chosen, shares and moves: promises 9 to 16. */
final class TableSentences extends Desk {
    static void all() {
        tablesAndSeats();
        laws();
        picksAndChoices();
        sharesAndMoves();
    }

    private static void tablesAndSeats() {
        SentenceTests.sentence(9, "TABLES 0 .. 9, as they are made: of some KEEPERS (bits, one at least)", TableSentences::tenTables);
        SentenceTests.sentence(9, "their STRENGTHS, KINDS and STREETS as they are then.", TableSentences::asTheyAreThen);
        SentenceTests.sentence(9, "A TABLE of KEEPERS (bits): its number; -100 less the FAULT of THE TAPE (that is empty then in both). BAD (bits; THE TAPE stays), FULL (likewise).", TableSentences::tableRefused);
        SentenceTests.sentence(10, "Of a TABLE: 0 KEEPERS (bits), 1 SEATS, 2 COPIES, 3 STREETS, 4 how they are PICKED, 5 EVEN. BAD.", TableSentences::ofATable);
        SentenceTests.sentence(10, "each 4 for each STRENGTH that counts", TableSentences::fourForEach);
        SentenceTests.sentence(11, "KEEPER by KEEPER by numbers, each 4 for each STRENGTH that counts, seat j (from 0) at the place ((k * 7919 + j * 104729 + z) * 1103515245 + 12345 >>> 8) % 1000 (ints that wrap)", TableSentences::seatsThatWrap);
        SentenceTests.sentence(11, "or, if one is there, at the next free one, round (behind 999 comes 0).", TableSentences::nextFreeSeat);
        SentenceTests.sentence(11, "Whose SEAT is at a place (0 .. 999) of a TABLE; NOT: none. BAD.", TableSentences::seatsAtTheEnds);
    }

    private static void laws() {
        SentenceTests.sentence(9, "LAW: THE TAPE (at most 80 bytes): PARTS, parted by ;", TableSentences::lawOf80);
        SentenceTests.sentence(9, "c E (COPIES, held within 1 .. 4), s E (STREETS, held within 1 .. 4)", TableSentences::heldWithin);
        SentenceTests.sentence(9, "p D (how they are PICKED, a digit 0, 1, 2)", TableSentences::digitOfPicked);
        SentenceTests.sentence(9, "each at most once, in any order, one at least;", TableSentences::partsOnce);
        SentenceTests.sentence(9, "a blank stands behind the letter.", TableSentences::blankBehindLetter);
        SentenceTests.sentence(9, "Without c: COPIES 2; without s: STREETS 1; without p: 0.", TableSentences::withoutAPart);
        SentenceTests.sentence(9, "E = P { + P, - P }. P = O { * O, / O, % O }.", TableSentences::sumsAndProducts);
        SentenceTests.sentence(9, "O = a number (1 to 3 digits), a NAME, ( E ).", TableSentences::operands);
        SentenceTests.sentence(9, "n how many KEEPERS, u in how many STREETS they are, t all STRENGTHS that count, x the greatest of these.", TableSentences::namesInALaw);
        SentenceTests.sentence(9, "No other blanks.", TableSentences::noOtherBlanks);
        SentenceTests.sentence(9, "At most 4 ( are open at once.", TableSentences::fourOpen);
        SentenceTests.sentence(9, "Ints that wrap; / and % toward 0, by 0 they give 0.", TableSentences::intsThatWrap);
        SentenceTests.sentence(9, "FAULT: the place (from 0) of the first byte with which no LAW goes on (a letter of a PART that came, too)", TableSentences::placeOfTheFault);
        SentenceTests.sentence(9, "the length, if it ends too early.", TableSentences::endsTooEarly);
    }

    private static void picksAndChoices() {
        SentenceTests.sentence(12, "0 ROUND: KEEPERS in the order in which their SEATS come, from place m on, round.", TableSentences::pickedRound);
        SentenceTests.sentence(12, "KEEPERS by ((m * 7919 + k * 104729 + z) * 1103515245 + 12345 >>> 8) % 1000 times STRENGTH that counts", TableSentences::sumsThatWrap);
        SentenceTests.sentence(12, "the greatest first, of like ones the least number.", TableSentences::pickedBySums);
        SentenceTests.sentence(12, "then from (m + 333) % 1000, from (m + 666) % 1000 ..: of each of these the first KEEPER that is not there yet, one by one, till all are there", TableSentences::jumpsOverTheEnd);
        SentenceTests.sentence(12, "(behind (m + 999) % 1000 comes m again, so it goes on by 333 each time, % 1000).", TableSentences::pickedByJumps);
        SentenceTests.sentence(12, "The i-th KEEPER PICKED for a NUMBER by a TABLE. BAD (also none such).", TableSentences::pickedRefused);
        SentenceTests.sentence(13, "first such as are in STREETS that are not there yet, till there are as many unlike STREETS as STREETS says (or COPIES is reached, or none is left)", TableSentences::streetsFirst);
        SentenceTests.sentence(13, "then those that are left over, in order; COPIES in all, or all there are.", TableSentences::copiesInAll);
        SentenceTests.sentence(13, "They are told in the order in which they came to be chosen.", TableSentences::orderOfChoice);
        SentenceTests.sentence(13, "KEEPERS OF a NAME by a TABLE: how many (i -1), the i-th. BAD (also none such).", TableSentences::keeperOfRefused);
        SentenceTests.sentence(14, "TOO FEW: if there are less unlike STREETS among them than STREETS says.", TableSentences::tooFewStreets);
        SentenceTests.sentence(14, "How many NAMES have TOO FEW STREETS by a TABLE. BAD.", TableSentences::tooFewCounted);
    }

    private static void sharesAndMoves() {
        SentenceTests.sentence(10, "EVEN: the greatest ODDS less the least one (of its KEEPERS).", TableSentences::even);
        SentenceTests.sentence(15, "of how many NAMES it is the first one; ODDS: of how many NUMBERS 0 .. 999.", TableSentences::shareAndOdds);
        SentenceTests.sentence(15, "SHARE (what 0), ODDS (1) of a KEEPER by a TABLE (0: not in it). BAD.", TableSentences::shareRefused);
        SentenceTests.sentence(16, "over all NAMES: KEEPERS OF by the other one that are none by the first.", TableSentences::movesOfAll);
        SentenceTests.sentence(16, "those of these MOVES by which the KEEPER is in both TABLES (with the same STRENGTH that counts in both)", TableSentences::needlessComing);
        SentenceTests.sentence(16, "and all that are KEEPERS OF that NAME by the first are in the other one with the same STRENGTH that counts.", TableSentences::needlessStaying);
        SentenceTests.sentence(16, "MOVES (what 0), NEEDLESS (1) from a TABLE to another one. BAD.", TableSentences::movesRefused);
    }

    private static void tenTables() {
        SeatsRound x = house(0, 1, 2, 3, 4, 5, 0, 1, 2, 3, 4, 5);
        int[] sets = {1, 2048, 4095, 2, 1024, 4094, 2047, 5, 9, 3072};
        for (int t = 0; t < 10; t++) due("as they are made", table(x, "c 1", sets[t], t), t);
        for (int t = 0; t < 10; t++) due("ofTable(" + t + ", 0)", x.ofTable(t, 0), sets[t]);
        due("an 11th", table(x, "c 1", 1, 0), FULL);
        due("how many", x.count(2), 10);
        due("THE TAPE stays", x.count(3), 3);
    }

    private static void asTheyAreThen() {
        SeatsRound x = house(0, 1, 2, 3, 4, 5);
        table(x, "c x;s t-4;p 0", 63, 17);
        int[] at = seated(17, 1, 1, 1, 1, 1, 1);
        for (int k = 0; k < 6; k++) {
            x.strength(k, 8);
            x.become(k, 1);
        }
        due("SEATS", x.ofTable(0, 1), 24);
        due("COPIES", x.ofTable(0, 2), 1);
        due("STREETS", x.ofTable(0, 3), 2);
        for (int i = 0; i < 6; i++) due("picked", x.picked(0, 999, i), round(at, 999).get(i));
        for (int p = 0; p < 1000; p += 3) due("seat(0, " + p + ")", x.seat(0, p), at[p]);
        SeatsRound y = inOrder("c 1", 0, 1);
        y.strength(1, 8);
        y.become(1, 4);
        feed(y, "p 1");
        due("a table of now", y.table(3, 5), 1);
        due("SEATS", y.ofTable(1, 1), 4 * (1 + 8));
        due("SEATS of the old one", y.ofTable(0, 1), 8);
    }

    private static void tableRefused() {
        SeatsRound x = house(0, 1);
        feed(x, "c 1");
        for (int set : new int[] {0, 4, 5, 4096, LEAST, -1, MOST, 1 << 12}) due("table(" + set + ", 0)", x.table(set, 0), BAD);
        due("THE TAPE stays", x.count(3), 3);
        due("table(3, 0)", x.table(3, 0), 0);
        due("THE TAPE is empty then", x.count(3), 0);
        due("a FAULT at 0", x.table(1, 0), -100);
        due("a FAULT at 2", table(x, "c ?", 3, 0), -102);
        due("THE TAPE is empty then", x.count(3), 0);
        due("no TABLE came", x.count(2), 1);
        feed(x, "c ?");
        due("BAD is ahead of a FAULT", x.table(4, 0), BAD);
        due("THE TAPE stays", x.count(3), 3);
        x.table(1, 0);
        for (int t = 1; t < 10; t++) table(x, "c 1", 1, t);
        feed(x, "c ?");
        due("FULL is ahead of a FAULT", x.table(1, 0), FULL);
        due("THE TAPE stays", x.count(3), 3);
        due("BAD is ahead of FULL", x.table(0, 0), BAD);
        SeatsRound y = house(0, 0, 0, 0, 0, 0, 0, 0, 0, 0, 0, 0);
        feed(y, "c 1");
        due("a 13th of 12", y.table(4096, 0), BAD);
        due("more bits than KEEPERS", y.table(8191, 0), BAD);
        due("all 12", y.table(4095, 0), 0);
    }

    private static void ofATable() {
        SeatsRound x = house(0, 1, 2);
        due("no TABLE", x.ofTable(0, 0), BAD);
        table(x, "c 3;s 4;p 2", 6, 0);
        int[] want = {6, 8, 3, 4, 2};
        for (int what = 0; what < 5; what++) due("ofTable(0, " + what + ")", x.ofTable(0, what), want[what]);
        for (int what : new int[] {-1, 6, LEAST, MOST}) due("ofTable(0, " + what + ")", x.ofTable(0, what), BAD);
        for (int t : new int[] {-1, 1, LEAST, MOST}) due("ofTable(" + t + ", 0)", x.ofTable(t, 0), BAD);
    }

    private static void fourForEach() {
        SeatsRound x = house(0, 0, 0, 0, 0, 0, 0, 0, 0, 0, 0, 0);
        table(x, "c 1", 1, 0);
        due("the fewest SEATS", x.ofTable(0, 1), 4);
        for (int k = 0; k < 12; k++) {
            x.strength(k, 8);
            x.become(k, k % 2 == 0 ? 1 : 6);
        }
        table(x, "c 1", 4095, 0);
        due("the most SEATS", x.ofTable(1, 1), 768);
        table(x, "c 1", 2048, 0);
        due("one of STRENGTH 16 that counts", x.ofTable(2, 1), 64);
    }

    private static void seatsThatWrap() {
        for (int z : new int[] {LEAST, MOST, MOST - 104729, -1, 0}) {
            SeatsRound x = house(0, 0);
            x.strength(1, 2);
            table(x, "c 1", 3, z);
            int[] at = seated(z, 1, 2);
            int seats = 0;
            for (int p = 0; p < 1000; p++) {
                if (at[p] == NOT && p % 9 != 0) continue;
                due("seat(0, " + p + ") by " + z, x.seat(0, p), at[p]);
                if (at[p] != NOT) seats++;
            }
            due("SEATS by " + z, x.ofTable(0, 1), seats);
        }
    }

    private static void nextFreeSeat() {
        // Turnings by which a seat is driven from a place that two want to the one behind it, which none wants.
        for (int place : new int[] {999, 998, 0, 500}) {
            int z = least(v -> wanted(v, place) == 2 && wanted(v, (place + 1) % 1000) == 0 && wanted(v, (place + 999) % 1000) == 0);
            int[] at = seated(z, 8, 8, 8, 8, 8);
            due("the place behind is not free", at[(place + 1) % 1000] == NOT ? 0 : 1, 1);
            for (int part = 0; part < 4; part++) {
                SeatsRound x = new SeatsRound();
                for (int k = 0; k < 5; k++) x.keeper(0, 8);
                table(x, "c 1", 31, z);
                for (int p = 250 * part; p < 250 * part + 250; p++) due("seat(0, " + p + ") by " + z, x.seat(0, p), at[p]);
            }
        }
    }

    /** How often five keepers of strength 8 want a place. */
    private static int wanted(int z, int place) {
        int wanted = 0;
        for (int k = 0; k < 5; k++) {
            for (int j = 0; j < 32; j++) if (strewn(k * 7919L + j * 104729L + z) == place) wanted++;
        }
        return wanted;
    }

    private static void seatsAtTheEnds() {
        for (int place : new int[] {0, 999}) {
            int z = least(v -> seated(v, 1)[place] == 0);
            SeatsRound x = house(0);
            due("seat of no TABLE", x.seat(0, place), BAD);
            table(x, "c 1", 1, z);
            due("seat(0, " + place + ")", x.seat(0, place), 0);
            due("none", x.seat(0, 999 - place), NOT);
            for (int p : new int[] {-1, 1000, LEAST, MOST}) due("seat(0, " + p + ")", x.seat(0, p), BAD);
            for (int t : new int[] {-1, 1, LEAST, MOST}) due("seat(" + t + ", 0)", x.seat(t, 0), BAD);
        }
    }

    /** COPIES, STREETS and how they are PICKED, as one number of three digits, or the answer. */
    private static int lawOf(SeatsRound x, String law) {
        int t = table(x, law, bits(x), 0);
        return t < 0 ? t : 100 * x.ofTable(t, 2) + 10 * x.ofTable(t, 3) + x.ofTable(t, 4);
    }

    private static void dueLaw(String law, int want) {
        due(law, lawOf(house(0, 0, 1), law), want);
    }

    private static void dueFault(String law, int place) {
        due("the FAULT of " + law, lawOf(house(0), law), -100 - place);
    }

    private static String times(String text, int many) {
        StringBuilder s = new StringBuilder();
        for (int i = 0; i < many; i++) s.append(text);
        return s.toString();
    }

    private static void lawOf80() {
        String law = "c 41" + times("-1", 38);
        due("how long", law.length(), 80);
        dueLaw(law, 310);
        law = "p 2;s 39" + times("-1", 34) + ";c 4";
        due("how long", law.length(), 80);
        dueLaw(law, 442);
        dueLaw("s 39" + times("-1", 36) + ";c 4", 430);
    }

    private static void heldWithin() {
        String[] sums = {"0", "1", "2", "3", "4", "5", "999", "0-1", "512*512*512*16", "512*512*512*16-1"};
        int[] held = {1, 1, 2, 3, 4, 4, 4, 1, 1, 4};
        for (int i = 0; i < sums.length; i++) {
            dueLaw("c " + sums[i], 100 * held[i] + 10);
            dueLaw("s " + sums[i], 200 + 10 * held[i]);
        }
    }

    private static void digitOfPicked() {
        for (int d = 0; d < 3; d++) dueLaw("p " + d, 210 + d);
        for (int d = 3; d < 10; d++) dueFault("p " + d, 2);
        for (char c : new char[] {'/', ':', 'n', '(', ' ', 0, '0' + 128}) dueFault("p " + c, 2);
        dueFault("p 00", 3);
        dueFault("p 0+0", 3);
    }

    private static void partsOnce() {
        String[] all = {"c 3;s 2;p 1", "c 3;p 1;s 2", "s 2;c 3;p 1", "s 2;p 1;c 3", "p 1;c 3;s 2", "p 1;s 2;c 3"};
        for (String law : all) dueLaw(law, 321);
        dueLaw("c 3", 310);
        dueLaw("s 2", 220);
        dueLaw("p 1", 211);
        dueLaw("p 1;c 3", 311);
        dueFault("", 0);
        dueFault("c 1;c 1", 4);
        dueFault("s 1;s 1", 4);
        dueFault("p 1;p 1", 4);
        dueFault("c 1;s 1;c 1", 8);
        dueFault("s 1;p 1;p", 8);
        dueFault("p 1;c 1;p", 8);
        dueFault("c 1;s 1;p 1;", 11);
        dueFault(";c 1", 0);
    }

    private static void blankBehindLetter() {
        for (char c : new char[] {'c', 's', 'p'}) {
            dueFault(c + "1", 1);
            dueFault(c + "" + (char) 9 + "1", 1);
            dueFault(c + "" + (char) 160 + "1", 1);
            dueFault(c + ";", 1);
        }
    }

    private static void withoutAPart() {
        dueLaw("s 3;p 1", 231);
        dueLaw("c 3;p 1", 311);
        dueLaw("c 3;s 3", 330);
        dueLaw("s 4", 240);
        dueLaw("p 2", 212);
        dueLaw("c 4", 410);
        // Nothing stays of the table ahead, nor of a fault.
        SeatsRound x = house(0, 0, 1);
        due("all three", lawOf(x, "c 4;s 3;p 2"), 432);
        due("without s and p", lawOf(x, "c 3"), 310);
        lawOf(x, "c 4;s 3;p 2");
        due("without c and p", lawOf(x, "s 2"), 220);
        lawOf(x, "c 4;s 3;p 2");
        due("without c and s", lawOf(x, "p 1"), 211);
        lawOf(x, "c 4;s 3;p 2;");
        due("behind a fault", lawOf(x, "p 1"), 211);
    }

    private static void sumsAndProducts() {
        dueLaw("c 1+1*2", 310);
        dueLaw("c 7-2*2", 310);
        dueLaw("c 9-4-2", 310);
        dueLaw("c 9-4+2-4", 310);
        dueLaw("c 24/4/2", 310);
        dueLaw("c 9/2*2-5", 310);
        dueLaw("c 2*9%5*3-6", 310);
        dueLaw("c 17%7%2+2", 310);
        dueLaw("c 4+9/3-4", 310);
    }

    private static void operands() {
        dueLaw("c 3", 310);
        dueLaw("c 03", 310);
        dueLaw("c 003", 310);
        dueLaw("c 999-996", 310);
        dueFault("c 0003", 5);
        dueFault("c 1+1234", 7);
        dueFault("c (1234)", 6);
        dueLaw("c (3)", 310);
        dueLaw("c (1+2)*(9-8)", 310);
        dueLaw("c n", 310);
        dueLaw("c (n)", 310);
        dueFault("c ()", 3);
        dueFault("c -1", 2);
        dueFault("c +1", 2);
        dueFault("c 1n", 3);
        dueFault("c n1", 3);
        dueFault("c 1(1)", 3);
        dueFault("c (1)1", 5);
        dueFault("c (1)(1)", 5);
        dueFault("c N", 2);
        dueFault("c c", 2);
    }

    private static void namesInALaw() {
        SeatsRound least = house(5);
        for (String name : new String[] {"n", "u", "t", "x"}) due("one KEEPER: " + name, lawOf(least, "c " + name + "+2"), 310);
        SeatsRound most = new SeatsRound();
        for (int k = 0; k < 12; k++) {
            most.keeper(k % 6, 8);
            most.become(k, k % 2 == 0 ? 1 : 6);
        }
        due("n is 12", lawOf(most, "c n-9"), 310);
        due("u is 6", lawOf(most, "c u-3"), 310);
        due("t is 192", lawOf(most, "c t-189"), 310);
        due("x is 16", lawOf(most, "c x-13"), 310);
        SeatsRound some = new SeatsRound();
        some.keeper(2, 7);
        some.keeper(2, 1);
        some.keeper(4, 2);
        some.keeper(3, 8);
        some.become(1, 1);
        int t = table(some, "c n;s u", 7, 0);
        due("n of those in it", some.ofTable(t, 2), 3);
        due("u of those in it", some.ofTable(t, 3), 2);
        t = table(some, "c t-8;s x-5", 7, 0);
        due("t of those in it is 11", some.ofTable(t, 2), 3);
        due("x of those in it is 7", some.ofTable(t, 3), 2);
    }

    private static void noOtherBlanks() {
        dueFault(" c 1", 0);
        dueFault("c  1", 2);
        dueFault("c 1 ", 3);
        dueFault("c 1 +1", 3);
        dueFault("c 1+ 1", 4);
        dueFault("c ( 1)", 3);
        dueFault("c (1 )", 4);
        dueFault("c 1 ;s 1", 3);
        dueFault("c 1; s 1", 4);
        dueFault("p 1 ", 3);
    }

    private static void fourOpen() {
        dueLaw("c ((((3))))", 310);
        dueLaw("c ((((3))))*((((1))))+((((0))))", 310);
        dueLaw("c (((1+(2))))", 310);
        dueLaw("s ((((3))))", 230);
        dueFault("s (((((3)))))", 6);
        dueLaw("c ((((1)+(1))+(1)))", 310);
        dueFault("c (((((3)))))", 6);
        dueFault("c ((((1+(2)))))", 8);
        dueFault("c (1)+(((((", 10);
        dueFault("s 1;c (((((1", 10);
        dueFault("c ((((1)))))", 11);
    }

    private static void intsThatWrap() {
        dueLaw("c 512*512*512*16", 110);
        dueLaw("c 512*512*512*16-1", 410);
        dueLaw("c 512*512*512*32+3", 310);
        dueLaw("c (512*512*512*16-1)+(512*512*512*16-1)+5", 310);
        dueLaw("c (1-8)/2+6", 310);
        dueLaw("c (1-8)%3+4", 310);
        dueLaw("c 7/(0-2)+6", 310);
        dueLaw("c 7%(0-3)+2", 310);
        dueLaw("c 7/0+3", 310);
        dueLaw("c 7%0+3", 310);
        dueLaw("c 7/(2-2)*9+3", 310);
        dueLaw("c 0/0+3", 310);
        dueLaw("c 512*512*512*16/(0-1)", 110);
        dueLaw("c 512*512*512*16%(0-1)+3", 310);
    }

    private static void placeOfTheFault() {
        for (char c : new char[] {0, 'b', 'C', 'n', '1', ' ', '(', 'c' + 128, 255}) dueFault(c + " 1", 0);
        dueFault("c 1?", 3);
        dueFault("c 1,s 1", 3);
        dueFault("c 1+*2", 4);
        dueFault("c 1*/2", 4);
        dueFault("c (1;s 1)", 4);
        dueFault("c 1)", 3);
        dueFault("c (1+)", 5);
        dueFault("c 1;;s 1", 4);
        dueFault("c 1;c", 4);
        dueFault("c 1;s 1;s", 8);
        dueFault("c 1;x 1", 4);
        dueFault("c 1c", 3);
        dueFault("c ?;c ?", 2);
        dueFault("c 41" + times("-1", 37) + "-?", 79);
    }

    private static void endsTooEarly() {
        dueFault("", 0);
        for (char c : new char[] {'c', 's', 'p'}) {
            dueFault("" + c, 1);
            dueFault(c + " ", 2);
        }
        dueFault("c 1;", 4);
        dueFault("c 1;s", 5);
        dueFault("c 1;s ", 6);
        dueFault("c 1+", 4);
        dueFault("c 1%", 4);
        dueFault("c (", 3);
        dueFault("c ((((", 6);
        dueFault("c (1", 4);
        dueFault("c ((1)", 6);
        dueFault("c 41" + times("-1", 37) + "1-", 80);
    }

    private static void pickedRound() {
        int[] at = seated(3, 2, 3, 1);
        SeatsRound x = new SeatsRound();
        x.keeper(0, 2);
        x.keeper(0, 3);
        x.keeper(0, 1);
        table(x, "p 0", 7, 3);
        // At each seat, one ahead of it, one behind it; and at both ends of the ring.
        for (int p = 0; p < 1000; p++) {
            if (at[p] == NOT && p != 0 && p != 999) continue;
            dueRound(x, at, (p + 999) % 1000);
            dueRound(x, at, p);
            dueRound(x, at, (p + 1) % 1000);
        }
        for (int place : new int[] {997, 998, 999, 0}) roundFrom(place);
    }

    private static void dueRound(SeatsRound x, int[] at, int m) {
        for (int i = 0; i < 3; i++) due("picked(0, " + m + ", " + i + ")", x.picked(0, m, i), round(at, m).get(i));
    }

    /** A turning by which the picks from a place on would be others without the seat behind that place. */
    private static void roundFrom(int place) {
        int next = (place + 1) % 1000;
        int z = least(v -> isOfWorth(seated(v, 8, 8, 8), place, next));
        SeatsRound x = new SeatsRound();
        for (int k = 0; k < 3; k++) x.keeper(0, 8);
        table(x, "p 0", 7, z);
        for (int m : new int[] {place, next, (place + 999) % 1000}) dueRound(x, seated(z, 8, 8, 8), m);
    }

    private static boolean isOfWorth(int[] at, int place, int next) {
        if (at[place] == NOT || at[next] == NOT) return false;
        int[] without = at.clone();
        without[next] = NOT;
        return !round(at, place).equals(round(without, place));
    }

    private static void sumsThatWrap() {
        for (int z : new int[] {LEAST, MOST, MOST - 104729, -1, 0}) {
            SeatsRound x = new SeatsRound();
            int[] strengths = {1, 8, 3, 2};
            for (int s : strengths) x.keeper(0, s);
            table(x, "p 1", 15, z);
            for (int m : new int[] {0, 1, 499, 998, 999}) {
                for (int i = 0; i < 4; i++) due("picked(0, " + m + ", " + i + ") by " + z, x.picked(0, m, i), sums(m, z, strengths).get(i));
            }
        }
    }

    private static void pickedBySums() {
        // Two keepers whose sums are alike and the greatest ones; a third one behind them.
        for (int[] strengths : new int[][] {{1, 1, 3}, {1, 2, 4}, {1, 3, 5}, {1, 1, 6}}) {
            int which = least(v -> isTie(v % 1000, v / 1000, strengths)), m = which % 1000, z = which / 1000;
            SeatsRound x = new SeatsRound();
            for (int s : strengths) x.keeper(0, s);
            table(x, "p 1", 7, z);
            due("of like ones the least number", x.picked(0, m, 0), 0);
            due("then the other one", x.picked(0, m, 1), 2);
            due("then the lesser one", x.picked(0, m, 2), 1);
        }
        int[] strengths = {1, 2, 3, 4, 5, 6, 7, 8, 1, 2, 3, 4};
        SeatsRound y = new SeatsRound();
        for (int strength : strengths) y.keeper(0, strength);
        table(y, "p 1", 4095, -77);
        for (int m : new int[] {0, 1, 500, 999}) {
            for (int i = 0; i < 12; i++) due("picked(0, " + m + ", " + i + ")", y.picked(0, m, i), sums(m, -77, strengths).get(i));
        }
        strongBySums();
    }

    private static boolean isTie(int m, int z, int[] s) {
        int one = sum(m, 0, z) * s[0], two = sum(m, 1, z) * s[1], three = sum(m, 2, z) * s[2];
        return one == three && two < one;
    }

    /** The strength that counts, not the one told. */
    private static void strongBySums() {
        int m = least(v -> sum(v, 1, 0) > sum(v, 0, 0) && sum(v, 1, 0) < 2 * sum(v, 0, 0));
        due("a place of the ring", m < 1000 ? 1 : 0, 1);
        SeatsRound x = house(0, 0);
        table(x, "p 1", 3, 0);
        x.become(0, 6);
        table(x, "p 1", 3, 0);
        due("of equal STRENGTHS", x.picked(0, m, 0), 1);
        due("of twice the STRENGTH", x.picked(1, m, 0), 0);
    }

    private static void jumpsOverTheEnd() {
        for (int many = 1; many <= 5; many++) {
            int[] strengths = new int[many];
            java.util.Arrays.fill(strengths, 2);
            SeatsRound x = new SeatsRound();
            for (int k = 0; k < many; k++) x.keeper(0, 2);
            table(x, "p 2", (1 << many) - 1, 21);
            for (int m : new int[] {0, 1, 333, 334, 666, 667, 668, 999}) {
                for (int i = 0; i < many; i++) due("picked(0, " + m + ", " + i + ") of " + many, x.picked(0, m, i), jumps(seated(21, strengths), m).get(i));
                due("no more", x.picked(0, m, many), BAD);
            }
        }
    }

    private static void pickedByJumps() {
        int z = 11;
        int[] strengths = new int[12];
        java.util.Arrays.fill(strengths, 1);
        int[] at = seated(z, strengths);
        SeatsRound x = house(0, 0, 0, 0, 0, 0, 0, 0, 0, 0, 0, 0);
        table(x, "p 2", 4095, z);
        for (int m = 0; m < 1000; m += 37) {
            for (int i = 0; i < 12; i++) due("picked(0, " + m + ", " + i + ")", x.picked(0, m, i), jumps(at, m).get(i));
        }
    }

    private static void pickedRefused() {
        SeatsRound x = house(0, 1, 2);
        due("of no TABLE", x.picked(0, 0, 0), BAD);
        for (int way = 0; way < 3; way++) {
            int t = table(x, "p " + way, 3, 0);
            for (int m : new int[] {0, 999}) due("all of them", x.picked(t, m, 0) + x.picked(t, m, 1), 1);
            for (int m : new int[] {-1, 1000, LEAST, MOST}) due("picked(" + t + ", " + m + ", 0)", x.picked(t, m, 0), BAD);
            for (int i : new int[] {-1, 2, 3, 12, LEAST, MOST}) due("picked(" + t + ", 0, " + i + ")", x.picked(t, 0, i), BAD);
        }
        for (int t : new int[] {-1, 3, LEAST, MOST}) due("picked(" + t + ", 0, 0)", x.picked(t, 0, 0), BAD);
    }

    /** Whom a table chooses for name 0, digit by digit; they are picked in the order of their numbers. */
    private static void dueChoice(String law, String want, int... streets) {
        SeatsRound x = inOrder(law, streets);
        StringBuilder got = new StringBuilder("9");
        for (int i = 0; i < x.keeperOf(0, 0, -1); i++) got.append(x.keeperOf(0, 0, i));
        due("KEEPERS OF by " + law + ", 9 ahead of them,", Long.parseLong(got.toString()), Long.parseLong("9" + want));
    }

    private static void streetsFirst() {
        dueChoice("c 3;s 1", "012", 0, 0, 0, 1, 2);
        dueChoice("c 3;s 2", "031", 0, 0, 0, 1, 2);
        dueChoice("c 3;s 3", "034", 0, 0, 0, 1, 2);
        dueChoice("c 3;s 4", "034", 0, 0, 0, 1, 2);
        dueChoice("c 2;s 3", "03", 0, 0, 0, 1, 2);
        dueChoice("c 1;s 4", "0", 0, 0, 0, 1, 2);
        dueChoice("c 4;s 4", "0341", 0, 0, 0, 1, 2);
        dueChoice("c 3;s 3", "012", 5, 5, 5, 5, 5);
        dueChoice("c 4;s 4", "0123", 2, 3, 4, 5, 0);
        dueChoice("c 4;s 2", "0312", 1, 1, 1, 0, 0);
    }

    private static void copiesInAll() {
        dueChoice("c 4;s 1", "0", 0);
        dueChoice("c 4;s 1", "01", 0, 1);
        dueChoice("c 4;s 1", "012", 0, 1, 1);
        dueChoice("c 4;s 1", "0123", 0, 1, 1, 2);
        dueChoice("c 4;s 1", "0123", 0, 1, 1, 2, 3);
        dueChoice("c 1;s 1", "0", 0, 1, 1, 2, 3);
        dueChoice("c 4;s 2", "0213", 0, 0, 1, 1, 2);
    }

    private static void orderOfChoice() {
        dueChoice("c 4;s 3", "0241", 0, 0, 1, 1, 2);
        dueChoice("c 3;s 2", "041", 3, 3, 3, 3, 4);
        dueChoice("c 4;s 2", "0412", 3, 3, 3, 3, 4);
    }

    private static void keeperOfRefused() {
        SeatsRound x = inOrder("c 2", 0, 1, 2);
        due("how many", x.keeperOf(0, 0, -1), 2);
        due("the first", x.keeperOf(0, 0, 0), 0);
        due("the last", x.keeperOf(0, 0, 1), 1);
        for (int i : new int[] {-2, 2, 3, LEAST, MOST}) due("keeperOf(0, 0, " + i + ")", x.keeperOf(0, 0, i), BAD);
        for (int n : new int[] {-1, 1, LEAST, MOST}) due("keeperOf(0, " + n + ", -1)", x.keeperOf(0, n, -1), BAD);
        for (int t : new int[] {-1, 1, LEAST, MOST}) due("keeperOf(" + t + ", 0, -1)", x.keeperOf(t, 0, -1), BAD);
    }

    private static void tooFewStreets() {
        String[] laws = {"c 4;s 1", "c 4;s 2", "c 4;s 3", "c 4;s 4", "c 1;s 1", "c 1;s 2", "c 2;s 2", "c 2;s 3"};
        int[] few = {0, 0, 0, 1, 0, 1, 0, 1};
        for (int i = 0; i < laws.length; i++) due("by " + laws[i], inOrder(laws[i], 0, 1, 1, 0, 2).tooFew(0), few[i]);
        due("all in one street", inOrder("c 3;s 2", 1, 1, 1).tooFew(0), 1);
        due("one alone", inOrder("c 3;s 1", 1).tooFew(0), 0);
    }

    private static void tooFewCounted() {
        SeatsRound x = house(0, 0);
        due("of no TABLE", x.tooFew(0), BAD);
        table(x, "s 2", 3, 0);
        due("no NAMES", x.tooFew(0), 0);
        names(x, 40);
        due("all of 40", x.tooFew(0), 40);
        for (int t : new int[] {-1, 1, LEAST, MOST}) due("tooFew(" + t + ")", x.tooFew(t), BAD);
    }

    /** How often each is the first one of the ring's thousand places. */
    private static int[] odds(int[] at, int many) {
        int[] odds = new int[many];
        for (int m = 0; m < 1000; m++) odds[round(at, m).get(0)]++;
        return odds;
    }

    private static void even() {
        SeatsRound x = house(0, 1, 2, 3);
        table(x, "c 1", 4, 0);
        due("one alone", x.ofTable(0, 5), 0);
        // The keepers that are not in it have no ODDS, and do not count.
        table(x, "c 1", 6, 9);
        int[] odds = odds(seated(9, 0, 1, 1), 3);
        due("of two", x.ofTable(1, 5), Math.abs(odds[1] - odds[2]));
        due("ODDS", x.share(1, 1, 1), odds[1]);
        table(x, "c 1", 15, 9);
        odds = odds(seated(9, 1, 1, 1, 1), 4);
        java.util.Arrays.sort(odds);
        due("of four", x.ofTable(2, 5), odds[3] - odds[0]);
    }

    private static void shareAndOdds() {
        SeatsRound x = house(0, 1);
        table(x, "c 2", 2, 0);
        due("SHARE of no NAMES", x.share(0, 1, 0), 0);
        names(x, 40);
        due("SHARE of one alone", x.share(0, 1, 0), 40);
        due("ODDS of one alone", x.share(0, 1, 1), 1000);
        table(x, "c 2", 3, 4);
        int[] at = seated(4, 1, 1);
        int first = 0;
        for (int n = 0; n < 40; n++) if (round(at, number("n" + n, 4)).get(0) == 0) first++;
        due("SHARE of the first", x.share(1, 0, 0), first);
        due("SHARE of the second", x.share(1, 1, 0), 40 - first);
        due("ODDS of the first", x.share(1, 0, 1), odds(at, 2)[0]);
        due("ODDS of the second", x.share(1, 1, 1), odds(at, 2)[1]);
        oddsBySums();
    }

    private static void oddsBySums() {
        // A sum of 0 is a sum: the one alone is the first one of every place.
        int none = least(v -> sum(v % 1000, 1, v / 1000) == 0);
        SeatsRound x = house(0, 0);
        table(x, "p 1", 2, none / 1000);
        due("ODDS of one alone by SUMS", x.share(0, 1, 1), 1000);
        due("picked for the place with a sum of 0", x.picked(0, none % 1000, 0), 1);
        // Of like sums the least number is the first one, in ODDS too.
        int[] strengths = {1, 1, 3};
        int z = least(v -> isTie(v % 1000, v / 1000, strengths)) / 1000;
        SeatsRound y = new SeatsRound();
        for (int s : strengths) y.keeper(0, s);
        table(y, "p 1", 7, z);
        for (int k = 0; k < 3; k++) {
            int odds = 0;
            for (int m = 0; m < 1000; m++) if (sums(m, z, strengths).get(0) == k) odds++;
            due("ODDS of " + k + " by SUMS", y.share(0, k, 1), odds);
        }
    }

    private static void shareRefused() {
        SeatsRound x = house(0, 1, 2);
        due("of no TABLE", x.share(0, 0, 0), BAD);
        names(x, 3);
        table(x, "c 2", 3, 0);
        due("not in it", x.share(0, 2, 0), 0);
        due("not in it", x.share(0, 2, 1), 0);
        for (int what : new int[] {-1, 2, LEAST, MOST}) due("share(0, 0, " + what + ")", x.share(0, 0, what), BAD);
        for (int k : new int[] {-1, 3, LEAST, MOST}) due("share(0, " + k + ", 1)", x.share(0, k, 1), BAD);
        for (int t : new int[] {-1, 1, LEAST, MOST}) due("share(" + t + ", 0, 1)", x.share(t, 0, 1), BAD);
    }

    private static void movesOfAll() {
        SeatsRound x = house(0, 1, 2, 3, 4, 5, 0, 1);
        table(x, "c 4", 15, 0);
        table(x, "c 4", 240, 0);
        due("no NAMES", x.moves(0, 1, 0), 0);
        names(x, 40);
        due("all of 40 to four others", x.moves(0, 1, 0), 160);
        due("and back", x.moves(1, 0, 0), 160);
        due("to itself", x.moves(0, 0, 0), 0);
        table(x, "c 3", 15, 0);
        due("to fewer copies", x.moves(0, 2, 0), 0);
        due("to one copy more", x.moves(2, 0, 0), 40);
    }

    /** Keepers 0 and 1, name 0 kept by 0 alone by table 0; by table 1 by both, behind a change. */
    private static int needless(int keeper, int strength, int kind) {
        SeatsRound x = inOrder("c 1", 0, 1, 2);
        x.strength(keeper, strength);
        x.become(keeper, kind);
        table(x, "c 3", 7, 5);
        due("MOVES", x.moves(0, 1, 0), 2);
        return x.moves(0, 1, 1);
    }

    private static void needlessComing() {
        due("nothing changed", needless(1, 1, 0), 2);
        due("1 comes with another STRENGTH", needless(1, 2, 0), 1);
        due("1 comes with twice its STRENGTH", needless(1, 1, 1), 1);
        due("1 comes as one that is FULL", needless(1, 1, 6), 1);
        due("1 comes of another KIND", needless(1, 1, 4), 2);
        SeatsRound x = inOrder("c 1", 0, 1, 2);
        x.keeper(3, 1);
        table(x, "c 4", 15, 5);
        due("MOVES", x.moves(0, 1, 0), 3);
        due("3 was not in the first", x.moves(0, 1, 1), 2);
        due("to itself", x.moves(0, 0, 1), 0);
        int z = least(v -> round(seated(v, 1, 2), number("a", v)).get(0) == 0);
        SeatsRound y = inOrder("c 1", 0, 1);
        y.strength(1, 2);
        table(y, "c 1", 3, z);
        y.strength(1, 1);
        y.become(1, 1);
        table(y, "c 2", 3, 0);
        due("STRENGTH 2 and twice 1 count alike", y.moves(1, 2, 1), 1);
    }

    private static void needlessStaying() {
        due("0 stays with another STRENGTH", needless(0, 2, 0), 0);
        due("0 stays with twice its STRENGTH", needless(0, 1, 6), 0);
        due("0 stays of another KIND", needless(0, 1, 3), 2);
        SeatsRound x = inOrder("c 1", 0, 1, 2);
        table(x, "c 2", 6, 5);
        due("0 went: MOVES", x.moves(0, 1, 0), 2);
        due("0 went: NEEDLESS", x.moves(0, 1, 1), 0);
        SeatsRound y = inOrder("c 2", 0, 1, 2, 3);
        y.strength(3, 8);
        table(y, "c 4", 15, 5);
        due("3 comes with another STRENGTH, 2 does not", y.moves(0, 1, 1), 1);
        y.strength(1, 8);
        table(y, "c 4", 15, 5);
        due("one of those that were there changed", y.moves(0, 2, 1), 0);
    }

    private static void movesRefused() {
        SeatsRound x = inOrder("c 1", 0, 1);
        for (int what : new int[] {-1, 2, LEAST, MOST}) due("moves(0, 0, " + what + ")", x.moves(0, 0, what), BAD);
        for (int t : new int[] {-1, 1, LEAST, MOST}) {
            due("moves(" + t + ", 0, 0)", x.moves(t, 0, 0), BAD);
            due("moves(0, " + t + ", 0)", x.moves(0, t, 0), BAD);
        }
        due("moves(0, 0, 1)", x.moves(0, 0, 1), 0);
    }
}
