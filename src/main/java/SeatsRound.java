import java.util.Arrays;

/** Keepers, names, tables of seats round a ring, and parcels: see README.md and the document. */
public final class SeatsRound {
    public static final int BAD = -1, NOT = -2, FULL = -3, STATE = -5, VOID = -2000000000;

    private static final int NOTHING_THERE = -11, OTHER_KIND = -12, NO_PLACE = -13, BELOW_ZERO = -14;
    private static final int FAULT_BASE = -100;

    private static final int RING = 1000;
    private static final int MOST_TAPE = 80, MOST_FED = 4;
    private static final int MOST_NAMES = 40, LONGEST_NAME = 6;
    private static final int MOST_KEEPERS = 12, MOST_STREET = 5, MOST_STRENGTH = 8;
    private static final int MOST_TABLES = 10, SEATS_EACH = 4, MOST_COPIES = 4;
    private static final int MOST_ASKS = 9999, MOST_TURNS = 99;
    private static final int MOST_TOLD = 5, TOLD_SETS = 32, MOST_TURNINGS = 6;
    private static final int MOST_TRACE = 24;
    private static final int MOST_SHELVES = 6, MOST_ELEMENTS = 60, MOST_FROM_ROW = 20;
    private static final int LEAVES = 8, ROOM_WHEN_FULL = 8, ALL_PIECES = 3;

    private static final int KEEPER = 0, STRONG = 1, COMING = 2, GOING = 3, ASLEEP = 4, MISTAKEN = 5, FILLED = 6;
    private static final int[] KIND_ABOVE = {-1, 0, 0, 0, 0, 0, 1};
    private static final int ROUND = 0, SUMS = 1, JUMP = 2, JUMP_WIDTH = 333;
    private static final int BYTES = 0, SHORTS = 1, INTS = 2, LONGS = 3, BOOLEANS = 4;
    private static final int NONE = -1;

    private final Tape tape = new Tape();
    private final NameList nameList = new NameList();
    private final Keepers keepers = new Keepers();
    private final Law law = new Law();
    private final Choice choice = new Choice(keepers);
    private final Table[] tables = new Table[MOST_TABLES];
    private int tableCount = 0;
    private final Table draft = new Table();
    private final Parcels parcels = new Parcels(keepers, nameList, choice);
    private final Orders orders = new Orders(keepers, nameList, choice, law);
    private final Turnings turnings = new Turnings(nameList);
    private final Acts acts = new Acts();
    private final Rows rows = new Rows();

    public SeatsRound() {
    }

    // ---- names, keepers

    public int feed(int n, int v) {
        if (n < 1 || n > MOST_FED) return BAD;
        if (tape.length + n > MOST_TAPE) return FULL;
        tape.append(n, v);
        return tape.length;
    }

    public int name() {
        if (tape.length < 1 || tape.length > LONGEST_NAME) return BAD;
        int found = nameList.find(tape.bytes, 0, tape.length);
        if (found == NONE) {
            if (nameList.count >= MOST_NAMES) return FULL;
            found = nameList.add(tape.bytes, 0, tape.length);
        }
        tape.length = 0;
        return found;
    }

    public int number(int name, int z) {
        if (!nameList.has(name)) return BAD;
        return nameList.placeOf(name, z);
    }

    public int keeper(int street, int strength) {
        if (street < 0 || street > MOST_STREET || !isStrength(strength)) return BAD;
        if (keepers.count >= MOST_KEEPERS) return FULL;
        return keepers.add(street, strength);
    }

    public int become(int keeper, int kind) {
        if (!keepers.has(keeper) || !isKind(kind)) return BAD;
        int was = keepers.kind[keeper];
        keepers.kind[keeper] = kind;
        if (was == ASLEEP && kind != ASLEEP) parcels.handBack(keeper);
        return was;
    }

    public int strength(int keeper, int v) {
        if (!keepers.has(keeper) || !isStrength(v)) return BAD;
        int was = keepers.strength[keeper];
        keepers.strength[keeper] = v;
        return was;
    }

    public int ofKeeper(int keeper, int what) {
        if (!keepers.has(keeper)) return VOID;
        switch (what) {
            case 0: return keepers.kind[keeper];
            case 1: return keepers.street[keeper];
            case 2: return keepers.strength[keeper];
            case 3: return keepers.counting(keeper);
            case 4: return keepers.table[keeper];
            case 5: return parcels.copiesOn(keeper);
            case 6: return parcels.keptBy(keeper);
            case 7: return keepers.fallen[keeper] ? 1 : 0;
            default: return VOID;
        }
    }

    private static boolean isKind(int kind) {
        return kind >= KEEPER && kind <= FILLED;
    }

    private static boolean isStrength(int v) {
        return v >= 1 && v <= MOST_STRENGTH;
    }

    // ---- tables

    public int table(int keepers, int z) {
        int known = (1 << this.keepers.count) - 1;
        if (keepers == 0 || (keepers & ~known) != 0) return BAD;
        if (tableCount >= MOST_TABLES) return FULL;
        // A draft takes the fault, so that a table's room is used for laws alone.
        draft.takeMembers(keepers, this.keepers);
        draft.takeLaw(tape.bytes, tape.length);
        tape.length = 0;
        int fault = law.workOut(draft, this.keepers);
        if (fault != NONE) return FAULT_BASE - fault;
        Table made = new Table();
        made.takeAll(draft);
        made.seatAll(z);
        tables[tableCount] = made;
        tableCount++;
        return tableCount - 1;
    }

    public int ofTable(int table, int what) {
        Table t = tableAt(table);
        if (t == null) return BAD;
        switch (what) {
            case 0: return t.members;
            case 1: return t.seats;
            case 2: return t.copies;
            case 3: return t.streets;
            case 4: return t.way;
            case 5: return t.unevenness();
            default: return BAD;
        }
    }

    public int seat(int table, int place) {
        Table t = tableAt(table);
        if (t == null || !isPlace(place)) return BAD;
        return t.owner[place] == NONE ? NOT : t.owner[place];
    }

    public int picked(int table, int number, int i) {
        Table t = tableAt(table);
        if (t == null || !isPlace(number) || i < 0) return BAD;
        choice.pick(t, number);
        return i < choice.pickCount ? choice.picks[i] : BAD;
    }

    public int keeperOf(int table, int name, int i) {
        Table t = tableAt(table);
        if (t == null || !nameList.has(name) || i < -1) return BAD;
        choice.choose(t, nameList.placeOf(name, t.turn));
        if (i == -1) return choice.chosenCount;
        return i < choice.chosenCount ? choice.chosen[i] : BAD;
    }

    public int tooFew(int table) {
        Table t = tableAt(table);
        if (t == null) return BAD;
        int few = 0;
        for (int name = 0; name < nameList.count; name++) {
            choice.choose(t, nameList.placeOf(name, t.turn));
            if (Integer.bitCount(choice.streetBits) < t.streets) few++;
        }
        return few;
    }

    public int share(int table, int keeper, int what) {
        Table t = tableAt(table);
        if (t == null || !keepers.has(keeper) || what < 0 || what > 1) return BAD;
        if (what == 1) {
            t.countOdds();
            return t.odds[keeper];
        }
        int first = 0;
        for (int name = 0; name < nameList.count; name++) {
            if (t.firstFor(nameList.placeOf(name, t.turn)) == keeper) first++;
        }
        return first;
    }

    public int moves(int table, int other, int what) {
        Table from = tableAt(table);
        Table to = tableAt(other);
        if (from == null || to == null || what < 0 || what > 1) return BAD;
        int alike = from.alikeIn(to);
        int sum = 0;
        for (int name = 0; name < nameList.count; name++) {
            choice.choose(from, nameList.placeOf(name, from.turn));
            int before = choice.chosenBits;
            choice.choose(to, nameList.placeOf(name, to.turn));
            int moved = choice.chosenBits & ~before;
            if (what == 1) moved = (before & ~alike) == 0 ? moved & alike : 0;
            sum += Integer.bitCount(moved);
        }
        return sum;
    }

    private Table tableAt(int table) {
        return table >= 0 && table < tableCount ? tables[table] : null;
    }

    private static boolean isPlace(int place) {
        return place >= 0 && place < RING;
    }

    // ---- parcels

    public int knows(int keeper, int table) {
        if (!keepers.has(keeper) || table < NONE || table >= tableCount) return VOID;
        int was = keepers.table[keeper];
        keepers.table[keeper] = table;
        return was;
    }

    public int write(int keeper, int name) {
        if (!keepers.has(keeper) || !nameList.has(name)) return BAD;
        Table t = tableAt(keepers.table[keeper]);
        if (t == null || !keepers.isUp(keeper)) return STATE;
        return parcels.spread(t, name);
    }

    public int read(int keeper, int name) {
        if (!keepers.has(keeper) || !nameList.has(name)) return BAD;
        Table t = tableAt(keepers.table[keeper]);
        if (t == null || !keepers.isUp(keeper)) return STATE;
        return parcels.greatestFor(t, name);
    }

    public int onShelf(int keeper, int name, int what) {
        if (!keepers.has(keeper) || !nameList.has(name)) return BAD;
        switch (what) {
            case 0: return parcels.version[keeper][name];
            case 1: return parcels.kept[keeper][name];
            case 2: return parcels.kept[keeper][name] == 0 ? NOT : parcels.keptFor[keeper][name];
            case 3: return parcels.pieces[keeper][name];
            default: return BAD;
        }
    }

    public int fall(int keeper, int is) {
        if (!keepers.has(keeper) || is < 0 || is > 1) return BAD;
        int was = keepers.fallen[keeper] ? 1 : 0;
        keepers.fallen[keeper] = is == 1;
        if (is == 1) parcels.empty(keeper);
        return was;
    }

    public int half(int name, int from, int to) {
        if (!nameList.has(name) || !keepers.has(from) || !keepers.has(to) || from == to) return BAD;
        if (parcels.version[from][name] == 0) return NOT;
        return parcels.movePiece(name, from, to);
    }

    public int mend(int table) {
        Table t = tableAt(table);
        if (t == null) return BAD;
        return parcels.mendAll(t);
    }

    public int trees(int keeper, int other, int what) {
        if (!keepers.has(keeper) || !keepers.has(other) || keeper == other) return BAD;
        if (what < 0 || what > 1) return BAD;
        parcels.compare(keeper, other);
        return what == 0 ? parcels.wordsAsked() : parcels.unlikeLeaves();
    }

    public int noon(int table, int asks, int most) {
        Table t = tableAt(table);
        if (t == null || asks < 0 || asks > MOST_ASKS || most < 0 || most > MOST_ASKS) return BAD;
        int all = Integer.bitCount(t.members);
        for (int many = 1; many <= all; many++) {
            if (upward(asks, many) <= most) return many;
        }
        return NOT;
    }

    public int lies(int keeper, int late, int turns, int what) {
        if (!keepers.has(keeper) || late < 0 || turns < 1 || turns > MOST_TURNS) return BAD;
        if (late > turns || what < 0 || what > 1) return BAD;
        int told = keepers.strength[keeper];
        int real = Math.max(1, upward(told * (turns - late), turns));
        return what == 0 ? real : SEATS_EACH * (told - real);
    }

    private static int upward(int amount, int parts) {
        return parts > 0 ? (amount + parts - 1) / parts : 0;
    }

    // ---- orders, harm

    public int comes(int keeper) {
        if (!keepers.has(keeper) || orders.isTold(keeper)) return BAD;
        if (orders.toldCount >= MOST_TOLD) return FULL;
        orders.told[orders.toldCount] = keeper;
        orders.toldCount++;
        return orders.toldCount;
    }

    public int order(int table) {
        Table t = tableAt(table);
        if (t == null || orders.toldCount == 0) return BAD;
        int sum = orders.leastFrom(t, draft);
        return sum == NONE ? NOT : sum;
    }

    public int ordered(int i) {
        return i >= 0 && i < orders.pathLength ? orders.path[i] : BAD;
    }

    public int turning(int z) {
        if (turnings.count >= MOST_TURNINGS) return FULL;
        turnings.told[turnings.count] = z;
        turnings.count++;
        return turnings.count;
    }

    public int harm(int table) {
        Table t = tableAt(table);
        if (t == null || turnings.count == 0) return BAD;
        return turnings.leastHarm(t, draft);
    }

    public int harmed() {
        return turnings.greatest == NONE ? BAD : turnings.greatest;
    }

    // ---- acts, rows

    public int act(int keeper, int act, int x) {
        acts.ran = 0;
        if (!keepers.has(keeper)) return 0;
        return acts.run(keeper, keepers.strength[keeper], keepers.kind[keeper], act, x);
    }

    public int trace(int i) {
        return i >= 0 && i < acts.ran && i < MOST_TRACE ? acts.bodies[i] : BAD;
    }

    public int keep(int shelf, int keeper) {
        if (!isShelf(shelf) || keeper != NONE && !keepers.has(keeper)) return BAD;
        rows.holdKeeper(shelf, keeper);
        return 1;
    }

    public int row(int shelf, int sort, int n) {
        if (!isShelf(shelf) || sort < BYTES || sort > BOOLEANS || n > MOST_ELEMENTS) return BAD;
        if (n < 0) return BELOW_ZERO;
        rows.holdRow(shelf, sort, n);
        return 1;
    }

    public int put(int shelf, int i, long v) {
        if (!isShelf(shelf)) return BAD;
        int refusal = rows.refusalAt(shelf, i);
        if (refusal != 0) return refusal;
        rows.elements[shelf][i] = Rows.lowest(rows.sort[shelf], v);
        return 1;
    }

    public long element(int shelf, int i) {
        if (!isShelf(shelf) || rows.refusalAt(shelf, i) != 0) return Long.MIN_VALUE;
        return rows.elements[shelf][i];
    }

    public int shift(int shelf, int i, int other, int j, int n) {
        if (!isShelf(shelf) || !isShelf(other)) return BAD;
        if (rows.isEmpty(shelf) || rows.isEmpty(other)) return NOTHING_THERE;
        if (!rows.isRow(shelf) || !rows.isRow(other) || rows.sort[shelf] != rows.sort[other]) return OTHER_KIND;
        if (!rows.spans(shelf, i, n) || !rows.spans(other, j, n)) return NO_PLACE;
        System.arraycopy(rows.elements[shelf], i, rows.elements[other], j, n);
        return n;
    }

    public int taken(int shelf, int k) {
        if (!isShelf(shelf) || !isKind(k)) return BAD;
        if (rows.isEmpty(shelf)) return NOTHING_THERE;
        int held = rows.keeper[shelf];
        if (!keepers.has(held)) return OTHER_KIND;
        int kind = keepers.kind[held];
        return isUnder(kind, k) ? kind : OTHER_KIND;
    }

    public int names(int shelf, int i, int n) {
        if (!isShelf(shelf) || n < 1 || n > MOST_FROM_ROW) return BAD;
        if (rows.isEmpty(shelf)) return 0;
        if (!rows.isRow(shelf) || rows.sort[shelf] != BYTES) return OTHER_KIND;
        return nameList.addFrom(rows.elements[shelf], rows.length[shelf], i, n);
    }

    public int count(int what) {
        switch (what) {
            case 0: return nameList.count;
            case 1: return keepers.count;
            case 2: return tableCount;
            case 3: return tape.length;
            case 4: return parcels.allCopies();
            case 5: return parcels.allKept();
            case 6: return parcels.writings;
            case 7: return acts.ran;
            default: return BAD;
        }
    }

    private static boolean isShelf(int shelf) {
        return shelf >= 0 && shelf < MOST_SHELVES;
    }

    private static boolean isUnder(int kind, int above) {
        int k = kind;
        for (int i = 0; i < KIND_ABOVE.length && k >= 0 && k < KIND_ABOVE.length; i++) {
            if (k == above) return true;
            k = KIND_ABOVE[k];
        }
        return false;
    }

    /** The ring's one way of strewing an int over its places. */
    private static int strewn(int v) {
        return (v * 1103515245 + 12345 >>> 8) % RING;
    }

    private static int placeBehind(int place) {
        return place + 1 < RING ? place + 1 : 0;
    }

    /** Bytes that were fed and not used yet. */
    private static final class Tape {
        final byte[] bytes = new byte[MOST_TAPE];
        int length = 0;

        void append(int n, int v) {
            for (int i = 0; i < n && length < MOST_TAPE; i++) {
                bytes[length] = (byte) (v >>> 8 * i);
                length++;
            }
        }
    }

    /** The names, as they came, each once. */
    private static final class NameList {
        final byte[][] bytes = new byte[MOST_NAMES][LONGEST_NAME];
        final int[] size = new int[MOST_NAMES];
        final byte[] read = new byte[LONGEST_NAME];
        int count = 0;

        boolean has(int name) {
            return name >= 0 && name < count;
        }

        int find(byte[] text, int from, int length) {
            for (int name = 0; name < count; name++) {
                if (size[name] == length && isAlike(bytes[name], text, from, length)) return name;
            }
            return NONE;
        }

        private static boolean isAlike(byte[] name, byte[] text, int from, int length) {
            for (int i = 0; i < length; i++) {
                if (name[i] != text[from + i]) return false;
            }
            return true;
        }

        int add(byte[] text, int from, int length) {
            if (count >= MOST_NAMES) return NONE;
            System.arraycopy(text, from, bytes[count], 0, length);
            size[count] = length;
            count++;
            return count - 1;
        }

        int placeOf(int name, int z) {
            int v = z;
            for (int i = 0; i < size[name]; i++) {
                v = (v ^ (bytes[name][i] & 255)) * 16777619;
            }
            return (v >>> 7) % RING;
        }

        int addFrom(long[] row, int length, int from, int n) {
            int came = 0;
            int at = from;
            for (int i = 0; i < n; i++) {
                if (at < 0 || at >= length) return came;
                long told = row[at];
                if (told < 1 || told > LONGEST_NAME || told >= length - at) return came;
                int many = (int) told;
                for (int b = 0; b < many; b++) {
                    read[b] = (byte) row[at + 1 + b];
                }
                at += 1 + many;
                if (find(read, 0, many) != NONE) continue;
                if (add(read, 0, many) == NONE) return came;
                came++;
            }
            return came;
        }
    }

    /** The keepers' bodies: what each is now, whatever the tables say. */
    private static final class Keepers {
        final int[] kind = new int[MOST_KEEPERS];
        final int[] street = new int[MOST_KEEPERS];
        final int[] strength = new int[MOST_KEEPERS];
        final int[] table = new int[MOST_KEEPERS];
        final boolean[] fallen = new boolean[MOST_KEEPERS];
        int count = 0;

        boolean has(int keeper) {
            return keeper >= 0 && keeper < count;
        }

        int add(int itsStreet, int itsStrength) {
            kind[count] = KEEPER;
            street[count] = itsStreet;
            strength[count] = itsStrength;
            table[count] = NONE;
            count++;
            return count - 1;
        }

        int counting(int keeper) {
            boolean twice = kind[keeper] == STRONG || kind[keeper] == FILLED;
            return twice ? 2 * strength[keeper] : strength[keeper];
        }

        boolean isUp(int keeper) {
            return !fallen[keeper] && kind[keeper] != ASLEEP;
        }
    }

    /** A law's text, read and worked out in one go; a text is read anew for each set of keepers. */
    private static final class Law {
        private static final int MOST_OPEN = 4, MOST_DIGITS = 3, MOST_PARTS = 3;
        private byte[] text = new byte[0];
        private int length = 0;
        private int at = 0;
        private int fault = NONE;
        private int members = 0;
        private int streetsIn = 0;
        private int weights = 0;
        private int greatest = 0;

        /** The fault, or NONE: then the table has its copies, streets and way. */
        int workOut(Table t, Keepers keepers) {
            text = t.law;
            length = t.lawLength;
            at = 0;
            fault = NONE;
            look(t, keepers);
            t.copies = 2;
            t.streets = 1;
            t.way = ROUND;
            int came = 0;
            for (int part = 0; part < MOST_PARTS && fault == NONE; part++) {
                came |= readPart(t, came);
                if (fault != NONE || at >= length) break;
                // Behind the third part no letter is left that could follow, so its ; is the fault.
                if (sign() == ';' && part + 1 < MOST_PARTS) at++;
                else fault = at;
            }
            return fault;
        }

        private void look(Table t, Keepers keepers) {
            int bits = 0;
            members = Integer.bitCount(t.members);
            weights = 0;
            greatest = 0;
            for (int k = 0; k < MOST_KEEPERS; k++) {
                if ((t.members >> k & 1) == 0) continue;
                bits |= 1 << keepers.street[k];
                weights += t.weight[k];
                greatest = Math.max(greatest, t.weight[k]);
            }
            streetsIn = Integer.bitCount(bits);
        }

        /** The part's bit; of no worth, if there is a fault. */
        private int readPart(Table t, int came) {
            int letter = sign();
            int bit = letter == 'c' ? 1 : letter == 's' ? 2 : letter == 'p' ? 4 : 0;
            if (bit == 0 || (came & bit) != 0) {
                fault = at;
                return 0;
            }
            at++;
            if (sign() != ' ') {
                fault = at;
                return 0;
            }
            at++;
            if (letter == 'c') t.copies = heldWithin(readSum(0));
            else if (letter == 's') t.streets = heldWithin(readSum(0));
            else t.way = readWay();
            return bit;
        }

        private static int heldWithin(int v) {
            return Math.max(1, Math.min(MOST_COPIES, v));
        }

        private int readWay() {
            int digit = sign() - '0';
            if (digit < ROUND || digit > JUMP) {
                fault = at;
                return ROUND;
            }
            at++;
            return digit;
        }

        private int readSum(int open) {
            int v = readProduct(open);
            for (int i = 0; i < MOST_TAPE && fault == NONE; i++) {
                int sign = sign();
                if (sign != '+' && sign != '-') break;
                at++;
                int w = readProduct(open);
                v = sign == '+' ? v + w : v - w;
            }
            return v;
        }

        private int readProduct(int open) {
            int v = readOperand(open);
            for (int i = 0; i < MOST_TAPE && fault == NONE; i++) {
                int sign = sign();
                if (sign != '*' && sign != '/' && sign != '%') break;
                at++;
                int w = readOperand(open);
                if (sign == '*') v = v * w;
                else if (w == 0) v = 0;
                else v = sign == '/' ? v / w : v % w;
            }
            return v;
        }

        private int readOperand(int open) {
            int sign = sign();
            if (isDigit(sign)) return readNumber();
            if (sign == '(' && open < MOST_OPEN) return readBracket(open);
            int v = 0;
            switch (sign) {
                case 'n': v = members; break;
                case 'u': v = streetsIn; break;
                case 't': v = weights; break;
                case 'x': v = greatest; break;
                default:
                    fault = at;
                    return 0;
            }
            at++;
            return v;
        }

        private int readBracket(int open) {
            at++;
            int v = readSum(open + 1);
            if (fault != NONE) return 0;
            if (sign() == ')') at++;
            else fault = at;
            return v;
        }

        private int readNumber() {
            int v = 0;
            for (int i = 0; i < MOST_DIGITS && isDigit(sign()); i++) {
                v = 10 * v + sign() - '0';
                at++;
            }
            return v;
        }

        private static boolean isDigit(int sign) {
            return sign >= '0' && sign <= '9';
        }

        /** The byte that is next, or NONE behind the end. */
        private int sign() {
            return at >= 0 && at < length && at < text.length ? text[at] & 255 : NONE;
        }
    }

    /** Seats round the ring, of keepers as they were when it was made. */
    private static final class Table {
        int members = 0;
        int turn = 0;
        int copies = 1;
        int streets = 1;
        int way = ROUND;
        int seats = 0;
        int lawLength = 0;
        boolean oddsCounted = false;
        final int[] weight = new int[MOST_KEEPERS];
        final int[] odds = new int[MOST_KEEPERS];
        final byte[] law = new byte[MOST_TAPE];
        final byte[] owner = new byte[RING];
        /** The place of the first seat from each place on, so that empty places need no walk. */
        final short[] ahead = new short[RING];

        void takeMembers(int bits, Keepers keepers) {
            members = bits;
            for (int k = 0; k < MOST_KEEPERS; k++) {
                weight[k] = (bits >> k & 1) == 1 ? keepers.counting(k) : 0;
            }
        }

        void takeLaw(byte[] text, int length) {
            lawLength = Math.max(0, Math.min(Math.min(length, text.length), MOST_TAPE));
            System.arraycopy(text, 0, law, 0, lawLength);
        }

        /** All but the seats. */
        void takeAll(Table from) {
            members = from.members;
            System.arraycopy(from.weight, 0, weight, 0, MOST_KEEPERS);
            takeLaw(from.law, from.lawLength);
            copies = from.copies;
            streets = from.streets;
            way = from.way;
        }

        void seatAll(int z) {
            turn = z;
            seats = 0;
            oddsCounted = false;
            Arrays.fill(owner, (byte) NONE);
            for (int k = 0; k < MOST_KEEPERS; k++) {
                for (int j = 0; j < SEATS_EACH * weight[k]; j++) {
                    owner[freeFrom(strewn(k * 7919 + j * 104729 + z))] = (byte) k;
                    seats++;
                }
            }
            linkPlaces();
        }

        private int freeFrom(int place) {
            int p = place;
            for (int i = 0; i < RING && owner[p] != NONE; i++) {
                p = placeBehind(p);
            }
            return p;
        }

        private void linkPlaces() {
            int next = 0;
            for (int i = 2 * RING - 1; i >= 0; i--) {
                int p = i % RING;
                if (owner[p] != NONE) next = p;
                ahead[p] = (short) next;
            }
        }

        int sumOf(int keeper, int m) {
            return strewn(m * 7919 + keeper * 104729 + turn) * weight[keeper];
        }

        /** Every way begins with the first one picked, whatever the streets say. */
        int firstFor(int m) {
            if (way != SUMS) return owner[ahead[m]];
            int first = NONE;
            int most = NONE;
            for (int k = 0; k < MOST_KEEPERS; k++) {
                if ((members >> k & 1) == 0) continue;
                int sum = sumOf(k, m);
                if (sum > most) {
                    most = sum;
                    first = k;
                }
            }
            return first;
        }

        /** Once for each table: what it answers never changes. */
        void countOdds() {
            if (oddsCounted) return;
            Arrays.fill(odds, 0);
            for (int m = 0; m < RING; m++) {
                int first = firstFor(m);
                if (first >= 0 && first < MOST_KEEPERS) odds[first]++;
            }
            oddsCounted = true;
        }

        int unevenness() {
            countOdds();
            int least = RING;
            int most = 0;
            for (int k = 0; k < MOST_KEEPERS; k++) {
                if ((members >> k & 1) == 0) continue;
                least = Math.min(least, odds[k]);
                most = Math.max(most, odds[k]);
            }
            return most - least;
        }

        /** Bits of the keepers that are in both with the same weight. */
        int alikeIn(Table other) {
            int bits = members & other.members;
            for (int k = 0; k < MOST_KEEPERS; k++) {
                if (weight[k] != other.weight[k]) bits &= ~(1 << k);
            }
            return bits;
        }
    }

    /** Whom a table picks for a place of the ring, and who of these is chosen; used again for each. */
    private static final class Choice {
        final int[] picks = new int[MOST_KEEPERS];
        final int[] chosen = new int[MOST_KEEPERS];
        int pickCount = 0;
        int chosenCount = 0;
        int chosenBits = 0;
        int streetBits = 0;
        private int pickBits = 0;
        private final int[] sums = new int[MOST_KEEPERS];
        private final Keepers keepers;

        Choice(Keepers keepers) {
            this.keepers = keepers;
        }

        void pick(Table t, int m) {
            pickCount = 0;
            pickBits = 0;
            if (t.way == SUMS) pickBySums(t, m);
            else if (t.way == JUMP) pickByJumps(t, m);
            else pickRound(t, m);
        }

        private void pickRound(Table t, int m) {
            int p = m;
            for (int i = 0; i < t.seats && pickBits != t.members; i++) {
                p = t.ahead[p];
                if (!isPicked(t.owner[p])) takePick(t.owner[p]);
                p = placeBehind(p);
            }
        }

        private void pickByJumps(Table t, int m) {
            for (int jump = 0; jump < MOST_KEEPERS && pickBits != t.members; jump++) {
                pickFirstFrom(t, (m + JUMP_WIDTH * jump) % RING);
            }
        }

        private void pickFirstFrom(Table t, int place) {
            int p = place;
            for (int i = 0; i < t.seats; i++) {
                p = t.ahead[p];
                if (!isPicked(t.owner[p])) {
                    takePick(t.owner[p]);
                    return;
                }
                p = placeBehind(p);
            }
        }

        private void pickBySums(Table t, int m) {
            for (int k = 0; k < MOST_KEEPERS; k++) {
                if ((t.members >> k & 1) == 0) continue;
                int sum = t.sumOf(k, m);
                int at = pickCount;
                for (int i = pickCount; i > 0 && sums[i - 1] < sum; i--) {
                    sums[i] = sums[i - 1];
                    picks[i] = picks[i - 1];
                    at = i - 1;
                }
                sums[at] = sum;
                picks[at] = k;
                pickCount++;
            }
            pickBits = t.members;
        }

        private boolean isPicked(int keeper) {
            return (pickBits >> keeper & 1) == 1;
        }

        private void takePick(int keeper) {
            if (pickCount >= MOST_KEEPERS) return;
            picks[pickCount] = keeper;
            pickCount++;
            pickBits |= 1 << keeper;
        }

        void choose(Table t, int m) {
            pick(t, m);
            chosenCount = 0;
            chosenBits = 0;
            streetBits = 0;
            for (int i = 0; i < pickCount && chosenCount < Math.min(t.copies, t.streets); i++) {
                if ((streetBits >> keepers.street[picks[i]] & 1) == 0) takeChosen(picks[i]);
            }
            for (int i = 0; i < pickCount && chosenCount < t.copies; i++) {
                if (!isChosen(picks[i])) takeChosen(picks[i]);
            }
        }

        boolean isChosen(int keeper) {
            return (chosenBits >> keeper & 1) == 1;
        }

        private void takeChosen(int keeper) {
            chosen[chosenCount] = keeper;
            chosenCount++;
            chosenBits |= 1 << keeper;
            streetBits |= 1 << keepers.street[keeper];
        }
    }

    /** The keepers' shelves: versions, what is kept for sleepers, moves by halves. */
    private static final class Parcels {
        final int[][] version = new int[MOST_KEEPERS][MOST_NAMES];
        final int[][] kept = new int[MOST_KEEPERS][MOST_NAMES];
        final int[][] keptFor = new int[MOST_KEEPERS][MOST_NAMES];
        final int[][] pieces = new int[MOST_KEEPERS][MOST_NAMES];
        private final int[][] pieceTo = new int[MOST_KEEPERS][MOST_NAMES];
        private final int[] latest = new int[MOST_NAMES];
        /** Sums of two keepers; node i has 2 * i and 2 * i + 1 below it, the leaves are the last ones. */
        private final int[] oneTree = new int[2 * LEAVES];
        private final int[] otherTree = new int[2 * LEAVES];
        int writings = 0;
        private final Keepers keepers;
        private final NameList nameList;
        private final Choice choice;

        Parcels(Keepers keepers, NameList nameList, Choice choice) {
            this.keepers = keepers;
            this.nameList = nameList;
            this.choice = choice;
        }

        int spread(Table t, int name) {
            writings++;
            latest[name]++;
            choice.choose(t, nameList.placeOf(name, t.turn));
            int came = 0;
            for (int i = 0; i < choice.chosenCount; i++) {
                if (reaches(choice.chosen[i], name)) came++;
            }
            return came;
        }

        private boolean reaches(int keeper, int name) {
            if (keepers.fallen[keeper]) return false;
            if (keepers.kind[keeper] == ASLEEP) return isKeptFor(keeper, name);
            return receives(keeper, name, latest[name]);
        }

        /** By writing and mending alone: what is handed back or moved comes without a look at the room. */
        private boolean receives(int keeper, int name, int v) {
            return hasRoom(keeper, name) && takesGreater(keeper, name, v);
        }

        private boolean takesGreater(int keeper, int name, int v) {
            if (v <= version[keeper][name]) return false;
            version[keeper][name] = v;
            return true;
        }

        private boolean hasRoom(int keeper, int name) {
            if (keepers.kind[keeper] != FILLED || version[keeper][name] > 0) return true;
            return copiesOn(keeper) < ROOM_WHEN_FULL;
        }

        private boolean isKeptFor(int sleeper, int name) {
            for (int i = 0; i < choice.pickCount; i++) {
                int k = choice.picks[i];
                if (choice.isChosen(k) || !keepers.isUp(k)) continue;
                if (kept[k][name] > 0 && keptFor[k][name] != sleeper) continue;
                kept[k][name] = latest[name];
                keptFor[k][name] = sleeper;
                return true;
            }
            return false;
        }

        void handBack(int woken) {
            for (int k = 0; k < keepers.count; k++) {
                for (int name = 0; name < nameList.count; name++) {
                    if (kept[k][name] == 0 || keptFor[k][name] != woken) continue;
                    takesGreater(woken, name, kept[k][name]);
                    kept[k][name] = 0;
                }
            }
        }

        void empty(int keeper) {
            Arrays.fill(version[keeper], 0);
            Arrays.fill(kept[keeper], 0);
        }

        int greatestFor(Table t, int name) {
            choice.choose(t, nameList.placeOf(name, t.turn));
            int most = 0;
            for (int i = 0; i < choice.chosenCount; i++) {
                int k = choice.chosen[i];
                if (keepers.isUp(k)) most = Math.max(most, version[k][name]);
            }
            return most;
        }

        int movePiece(int name, int from, int to) {
            if (!keepers.isUp(from) || !keepers.isUp(to)) {
                pieces[from][name] = 0;
                return 0;
            }
            if (pieceTo[from][name] != to) pieces[from][name] = 0;
            pieceTo[from][name] = to;
            pieces[from][name]++;
            if (pieces[from][name] < ALL_PIECES) return pieces[from][name];
            takesGreater(to, name, version[from][name]);
            version[from][name] = 0;
            pieces[from][name] = 0;
            return ALL_PIECES;
        }

        int mendAll(Table t) {
            int came = 0;
            for (int name = 0; name < nameList.count; name++) {
                int most = greatestAnywhere(name);
                if (most == 0) continue;
                choice.choose(t, nameList.placeOf(name, t.turn));
                for (int i = 0; i < choice.chosenCount; i++) {
                    int k = choice.chosen[i];
                    if (keepers.isUp(k) && receives(k, name, most)) came++;
                }
            }
            return came;
        }

        private int greatestAnywhere(int name) {
            int most = 0;
            for (int k = 0; k < keepers.count; k++) {
                if (!keepers.fallen[k]) most = Math.max(most, version[k][name]);
            }
            return most;
        }

        void compare(int keeper, int other) {
            grow(oneTree, keeper);
            grow(otherTree, other);
        }

        private void grow(int[] tree, int keeper) {
            Arrays.fill(tree, 0);
            for (int name = 0; name < nameList.count; name++) {
                tree[LEAVES + name % LEAVES] += (name + 1) * version[keeper][name];
            }
            for (int node = LEAVES - 1; node >= 1; node--) {
                tree[node] = tree[2 * node] + tree[2 * node + 1];
            }
        }

        /** A node is asked only if the one above it was asked and is unlike, so one that is alike by chance hides what is below. */
        int wordsAsked() {
            int words = 1;
            int asked = 1 << 1;
            for (int node = 1; node < LEAVES; node++) {
                if ((asked >> node & 1) == 0 || oneTree[node] == otherTree[node]) continue;
                words += 2;
                asked |= 3 << 2 * node;
            }
            return words;
        }

        int unlikeLeaves() {
            int unlike = 0;
            for (int leaf = LEAVES; leaf < 2 * LEAVES; leaf++) {
                if (oneTree[leaf] != otherTree[leaf]) unlike++;
            }
            return unlike;
        }

        int copiesOn(int keeper) {
            return filled(version[keeper]);
        }

        int keptBy(int keeper) {
            return filled(kept[keeper]);
        }

        int allCopies() {
            int all = 0;
            for (int k = 0; k < keepers.count; k++) all += copiesOn(k);
            return all;
        }

        int allKept() {
            int all = 0;
            for (int k = 0; k < keepers.count; k++) all += keptBy(k);
            return all;
        }

        private static int filled(int[] versions) {
            int many = 0;
            for (int v : versions) {
                if (v > 0) many++;
            }
            return many;
        }
    }

    /** The order in which the keepers told come and go: by the sets of those that did, from the last set back. */
    private static final class Orders {
        final int[] told = new int[MOST_TOLD];
        int toldCount = 0;
        final int[] path = new int[MOST_TOLD];
        int pathLength = 0;
        /** Bits of the keepers of each name when a set of those told has come or gone. */
        private final int[][] holders = new int[TOLD_SETS][MOST_NAMES];
        /** The least sum from a set on; NONE where no order leads to the end. */
        private final int[] least = new int[TOLD_SETS];
        private final Keepers keepers;
        private final NameList nameList;
        private final Choice choice;
        private final Law law;

        Orders(Keepers keepers, NameList nameList, Choice choice, Law law) {
            this.keepers = keepers;
            this.nameList = nameList;
            this.choice = choice;
            this.law = law;
        }

        boolean isTold(int keeper) {
            for (int i = 0; i < toldCount; i++) {
                if (told[i] == keeper) return true;
            }
            return false;
        }

        /** The least sum, or NONE; the keepers told are forgotten if there is one. */
        int leastFrom(Table t, Table draft) {
            int last = (1 << toldCount) - 1;
            for (int set = last; set >= 0; set--) {
                if (seatSet(t, draft, set)) least[set] = set == last ? 0 : leastOnward(set);
                else least[set] = NONE;
            }
            if (least[0] == NONE) return NONE;
            walk(last);
            toldCount = 0;
            return least[0];
        }

        /** False: nobody would be left. */
        private boolean seatSet(Table t, Table draft, int set) {
            draft.takeAll(t);
            for (int i = 0; i < toldCount; i++) {
                if ((set >> i & 1) == 0) continue;
                int k = told[i];
                draft.members ^= 1 << k;
                draft.weight[k] = (draft.members >> k & 1) == 1 ? keepers.counting(k) : 0;
            }
            if (draft.members == 0) return false;
            law.workOut(draft, keepers);
            draft.seatAll(t.turn);
            for (int name = 0; name < nameList.count; name++) {
                choice.choose(draft, nameList.placeOf(name, draft.turn));
                holders[set][name] = choice.chosenBits;
            }
            return true;
        }

        private int leastOnward(int set) {
            int best = NONE;
            for (int i = 0; i < toldCount; i++) {
                int sum = sumOver(set, i);
                if (sum != NONE && (best == NONE || sum < best)) best = sum;
            }
            return best;
        }

        /** The least sum from a set on, if the i-th one told is the next. */
        private int sumOver(int set, int i) {
            int next = set | 1 << i;
            if (next == set || least[next] == NONE) return NONE;
            int moved = 0;
            for (int name = 0; name < nameList.count; name++) {
                moved += Integer.bitCount(holders[next][name] & ~holders[set][name]);
            }
            return moved + least[next];
        }

        /** At each set the first one told by which the least sum is kept. */
        private void walk(int last) {
            int set = 0;
            pathLength = 0;
            for (int step = 0; step < toldCount && set != last; step++) {
                int i = nextOf(set);
                path[pathLength] = i;
                pathLength++;
                set |= 1 << i;
            }
        }

        private int nextOf(int set) {
            for (int i = 0; i < toldCount; i++) {
                if (sumOver(set, i) == least[set] && least[set] != NONE) return i;
            }
            return 0;
        }
    }

    /** Turnings told, and by which of them the greatest share is least. */
    private static final class Turnings {
        final int[] told = new int[MOST_TURNINGS];
        int count = 0;
        int greatest = NONE;
        private final int[] shares = new int[MOST_KEEPERS];
        private final NameList nameList;

        Turnings(NameList nameList) {
            this.nameList = nameList;
        }

        int leastHarm(Table t, Table draft) {
            int best = NONE;
            draft.takeAll(t);
            for (int i = 0; i < count; i++) {
                draft.seatAll(told[i]);
                int most = greatestShare(draft);
                if (best == NONE || most < greatest) {
                    best = i;
                    greatest = most;
                }
            }
            count = 0;
            return best;
        }

        private int greatestShare(Table t) {
            Arrays.fill(shares, 0);
            int most = 0;
            for (int name = 0; name < nameList.count; name++) {
                int first = t.firstFor(nameList.placeOf(name, t.turn));
                if (first < 0 || first >= MOST_KEEPERS) continue;
                shares[first]++;
                most = Math.max(most, shares[first]);
            }
            return most;
        }
    }

    /** One keeper's act at a time: each way starts at a kind and goes to the next one above that has a body. */
    private static final class Acts {
        final int[] bodies = new int[MOST_TRACE];
        int ran = 0;
        private int own = KEEPER;
        private int number = 0;
        private int strength = 0;

        int run(int itsNumber, int itsStrength, int kind, int act, int x) {
            number = itsNumber;
            strength = itsStrength;
            own = kind;
            switch (act) {
                case 0: return findsFrom(own, x);
                case 1: return keepsFrom(own, x);
                case 2: return movesFrom(own, x);
                case 3: return tellsFrom(own, x);
                default: return 0;
            }
        }

        private void begin(int body) {
            if (ran < MOST_TRACE) bodies[ran] = body;
            ran++;
        }

        private int findsFrom(int kind, int x) {
            switch (kind) {
                case FILLED:
                    begin(71);
                    return findsFrom(STRONG, x) * 2;
                case STRONG:
                    begin(20);
                    return findsFrom(KEEPER, x) + strength;
                case MISTAKEN:
                    begin(60);
                    return findsFrom(KEEPER, x + 1);
                default:
                    begin(1);
                    return x + number;
            }
        }

        private int keepsFrom(int kind, int x) {
            switch (kind) {
                case FILLED:
                    begin(70);
                    int keeps = keepsFrom(STRONG, x);
                    return keeps + movesFrom(STRONG, x);
                case GOING:
                    begin(40);
                    return -keepsFrom(KEEPER, x);
                default:
                    begin(10);
                    return findsFrom(own, x) * 2;
            }
        }

        private int movesFrom(int kind, int x) {
            switch (kind) {
                case COMING:
                    begin(30);
                    return movesFrom(KEEPER, x) * 3;
                case MISTAKEN:
                    begin(61);
                    int moves = movesFrom(KEEPER, x);
                    return moves - findsFrom(own, 2);
                default:
                    begin(11);
                    return x ^ number;
            }
        }

        private int tellsFrom(int kind, int x) {
            if (kind == ASLEEP) {
                begin(50);
                return tellsFrom(KEEPER, x) ^ 9;
            }
            begin(2);
            int keeps = keepsFrom(own, x);
            return keeps - movesFrom(own, 1);
        }
    }

    /** The host's shelves: each holds nothing, a keeper, or a row. */
    private static final class Rows {
        final int[] keeper = new int[MOST_SHELVES];
        final int[] sort = new int[MOST_SHELVES];
        final int[] length = new int[MOST_SHELVES];
        final long[][] elements = new long[MOST_SHELVES][MOST_ELEMENTS];

        Rows() {
            Arrays.fill(keeper, NONE);
            Arrays.fill(sort, NONE);
        }

        void holdKeeper(int shelf, int itsKeeper) {
            keeper[shelf] = itsKeeper;
            sort[shelf] = NONE;
            length[shelf] = 0;
        }

        void holdRow(int shelf, int itsSort, int n) {
            keeper[shelf] = NONE;
            sort[shelf] = itsSort;
            length[shelf] = n;
            Arrays.fill(elements[shelf], 0L);
        }

        boolean isRow(int shelf) {
            return sort[shelf] != NONE;
        }

        boolean isEmpty(int shelf) {
            return sort[shelf] == NONE && keeper[shelf] == NONE;
        }

        /** 0: element i is there. */
        int refusalAt(int shelf, int i) {
            if (isEmpty(shelf)) return NOTHING_THERE;
            if (!isRow(shelf)) return OTHER_KIND;
            return i >= 0 && i < length[shelf] ? 0 : NO_PLACE;
        }

        boolean spans(int shelf, int from, int n) {
            return from >= 0 && n >= 0 && from <= length[shelf] && n <= length[shelf] - from;
        }

        static long lowest(int itsSort, long v) {
            switch (itsSort) {
                case BYTES: return (byte) v;
                case SHORTS: return (short) v;
                case INTS: return (int) v;
                case BOOLEANS: return v != 0 ? 1 : 0;
                default: return v;
            }
        }
    }
}
