import java.util.Arrays;

/** Orders promised from stock and plan, so that no promise ever breaks another (README.md tells how to use it). */
public final class PromiseMind {
    public static final int BAD = -1, NOT = -2, FULL = -3, STATE = -5, LONG = -7;

    private static final int NOTHING = -11, PLACE = -13, SIZE = -14, NO_STEP = -10000, HINDERED = 100000;
    private static final int ITEMS = 3, PERIODS = 12, GROUPS = 4, ORDERS = 24;
    private static final int MOST_SUPPLY = 99, MOST_SHARE = 100, MOST_AMOUNT = 60, MOST_RANK = 9, ALL_ITEMS = 7;
    private static final int TAPE = 100, SHELVES = 4, ROW = 24, CHANGES = 12, PICKS = 8, PRINT = 32;
    private static final int ASKED = 0, PROMISED = 1, GONE = 2;

    /** The least long of all. */
    private static final long NO_LONG = 1L << 63;
    private static final int ANY = 1 << 30;

    /** A STEP's numbers are held one more than they are, so that they are places: 0 .. 12. */
    private static final int SIDE = PERIODS + 1, SQUARE = SIDE * SIDE, CELLS = SQUARE * SIDE;

    private final Book book = new Book();
    private final State now = new State();
    private final State picture = new State();
    private final History history = new History();
    private final Tape tape = new Tape();
    private final Steps steps = new Steps();
    private final Filling filling = new Filling();
    private final Shelves shelves = new Shelves();
    private final Print print = new Print();
    private final int[] rooms = new int[GROUPS];
    private boolean pictured;
    private int keptSet;
    private boolean keptKnown;

    public PromiseMind() {
    }

    // ---- supplies, shares

    public int supply(int item, int period, int n) {
        if (!isSupply(item, period) || !within(n, 0, MOST_SUPPLY)) return BAD;
        int place = item * PERIODS + period;
        int was = now.supplies[place];
        now.supplies[place] = n;
        noteChange();
        return was;
    }

    public int supplied(int item, int period) {
        if (!isSupply(item, period)) return BAD;
        return now.supplies[item * PERIODS + period];
    }

    public int share(int group, int n) {
        if (!isGroup(group) || !within(n, 0, MOST_SHARE)) return BAD;
        int was = now.shares[group];
        now.shares[group] = n;
        noteChange();
        return was;
    }

    public int group(int group, int what) {
        if (!isGroup(group)) return BAD;
        switch (what) {
            case 0: return now.shares[group];
            case 1: return cutOf(group);
            case 2: return amountOf(group, setOf(PROMISED));
            default: return BAD;
        }
    }

    // ---- orders

    public int feed(int letter) {
        if (!within(letter, ' ', '~')) return BAD;
        if (tape.isFull()) return FULL;
        tape.append((char) letter);
        return tape.size;
    }

    public int orders() {
        int before = book.size;
        int fault = tape.readInto(book);
        tape.clear();
        if (fault >= 0) return -100 - fault;
        for (int k = before; k < book.size; k++) {
            now.kinds[k] = ASKED;
            now.latest[k] = book.told[k];
        }
        return book.size;
    }

    public int of(int order, int what) {
        if (!isOrder(order)) return BAD;
        switch (what) {
            case 0: return book.amount[order];
            case 1: return book.items[order];
            case 2: return now.latest[order];
            case 3: return book.group[order];
            case 4: return book.rank[order];
            case 5: return now.kinds[order];
            case 6: return isLate(order) ? 1 : 0;
            default: return BAD;
        }
    }

    public int promise(int order) {
        if (!isOrder(order)) return BAD;
        if (now.kinds[order] != ASKED) return STATE;
        int promised = setOf(PROMISED);
        if (book.amount[order] > roomOf(book.group[order], promised)) return NOT;
        if (!areMet(promised | bit(order))) return NOT;
        return become(order, PROMISED);
    }

    public int promiseAll() {
        int promised = setOf(PROMISED);
        int before = Integer.bitCount(promised);
        if (areMet(promised)) {
            for (int rank = MOST_RANK; rank >= 0; rank--) {
                for (int k = 0; k < book.size; k++) {
                    if (book.rank[k] == rank && now.kinds[k] == ASKED && fitsBeside(k, promised)) {
                        steps.take(book.items[k], now.latest[k], book.amount[k]);
                        now.kinds[k] = PROMISED;
                        promised |= bit(k);
                    }
                }
            }
        }
        noteChange();
        return Integer.bitCount(promised) - before;
    }

    public int giveUp(int order) {
        if (!isOrder(order)) return BAD;
        if (now.kinds[order] != PROMISED) return STATE;
        return become(order, ASKED);
    }

    public int gone(int order) {
        if (!isOrder(order)) return BAD;
        if (now.kinds[order] == GONE) return STATE;
        return become(order, GONE);
    }

    public int move(int order, int period) {
        if (!isOrder(order) || !isPeriod(period)) return BAD;
        if (now.kinds[order] == GONE) return STATE;
        int was = now.latest[order];
        now.latest[order] = period;
        if (now.kinds[order] == PROMISED && !areMet(setOf(PROMISED))) {
            now.latest[order] = was;
            return NOT;
        }
        noteChange();
        return was;
    }

    public int swap(int order, int other) {
        if (!isOrder(order) || !isOrder(other) || order == other) return BAD;
        if (now.kinds[order] != PROMISED || now.kinds[other] != PROMISED) return STATE;
        exchangeLatest(order, other);
        if (!areMet(setOf(PROMISED))) {
            exchangeLatest(order, other);
            return NOT;
        }
        noteChange();
        return 1;
    }

    // ---- what can be

    public int left(int step) {
        int first = step / 10000;
        int second = step / 100 % 100;
        int third = step % 100;
        if (step < 0 || first >= SIDE || second >= SIDE || third >= SIDE) return NO_STEP;
        return leftAt(first, second, third);
    }

    public int hinders(int order, int part) {
        if (!isOrder(order) || !within(part, -1, 0)) return BAD;
        if (now.kinds[order] != ASKED) return STATE;
        steps.lay(book, now, setOf(PROMISED) | bit(order));
        int cell = steps.tightest();
        int least = steps.leftIn(cell);
        if (least >= 0) return NOT;
        return part == -1 ? stepOf(cell) : HINDERED + least;
    }

    public int could(int order, int what) {
        if (!isOrder(order) || !within(what, 0, 1)) return BAD;
        if (now.kinds[order] == GONE) return STATE;
        int others = setOf(PROMISED) & ~bit(order);
        int room = roomOf(book.group[order], others);
        if (!areMet(others)) return NOT;
        return what == 0 ? earliest(order, room) : asMuch(order, room);
    }

    public int spare(int items, int latest) {
        if (!within(items, 1, ALL_ITEMS) || !isPeriod(latest)) return BAD;
        if (!areMet(setOf(PROMISED))) return 0;
        return Math.max(0, steps.least(items, latest));
    }

    public int filled(int what) {
        if (!within(what, 0, 1)) return BAD;
        int asked = setOf(ASKED);
        if (Integer.bitCount(asked) > PICKS) return LONG;
        int promised = setOf(PROMISED);
        for (int g = 0; g < GROUPS; g++) rooms[g] = roomOf(g, promised);
        steps.lay(book, now, promised);
        filling.pick(book, now, asked);
        filling.tighten(steps);
        filling.seek(book, rooms);
        return what == 0 ? filling.best : filling.sums[filling.best];
    }

    public int range(int order, int item, int period, int what) {
        if (!isOrder(order) || !isSupply(item, period) || !within(what, 0, 1)) return BAD;
        if (now.kinds[order] != PROMISED) return STATE;
        if (!areMet(setOf(PROMISED))) return NOT;
        int items = book.items[order];
        int latest = now.latest[order];
        if ((items >> item & 1) == 0 || period > latest) return 0;
        int amount = book.amount[order];
        int supply = now.supplies[item * PERIODS + period];
        if (what == 0) return Math.max(0, amount + supply + steps.needOf(items, latest, item, period));
        return Math.min(Math.min(amount, supply), steps.leastWithout(items, latest, item, period));
    }

    // ---- late

    public int late() {
        return Integer.bitCount(setOf(PROMISED) & ~keptOnes());
    }

    public int kept(int i) {
        if (i < -1) return BAD;
        int set = keptOnes();
        if (i == -1) return Integer.bitCount(set);
        int ahead = 0;
        for (int rank = MOST_RANK; rank >= 0; rank--) {
            for (int k = 0; k < book.size; k++) {
                if (book.rank[k] != rank || (set & bit(k)) == 0) continue;
                if (ahead == i) return k;
                ahead++;
            }
        }
        return NOT;
    }

    public int why(int order) {
        if (!isOrder(order)) return BAD;
        if (!isLate(order)) return STATE;
        int counted = bit(order);
        int set = keptOnes();
        for (int k = 0; k < book.size; k++) {
            if ((set & bit(k)) != 0 && isAhead(k, order)) counted |= bit(k);
        }
        steps.lay(book, now, counted);
        return stepOf(steps.tightest());
    }

    public int ledger(int order, int i) {
        if (!isOrder(order) || i < -1) return BAD;
        printLedger(order, isLate(order));
        if (i == -1) return print.size;
        return i < print.size ? print.signAt(i) : NOT;
    }

    // ---- rows

    public int row(int shelf, int n) {
        if (!shelves.has(shelf) || n > ROW) return BAD;
        if (n < 0) return SIZE;
        shelves.lay(shelf, n);
        return 1;
    }

    public int put(int shelf, int i, long v) {
        if (!shelves.has(shelf)) return BAD;
        if (shelves.isEmpty(shelf)) return NOTHING;
        if (!shelves.hasPlace(shelf, i)) return PLACE;
        shelves.write(shelf, i, v);
        return 1;
    }

    public long get(int shelf, int i) {
        return shelves.hasPlace(shelf, i) ? shelves.read(shelf, i) : NO_LONG;
    }

    public int from(int shelf, int i, int item, int period) {
        if (!shelves.has(shelf) || !isSupply(item, period)) return BAD;
        if (shelves.isEmpty(shelf)) return NOTHING;
        if (i < 0) return PLACE;
        int place = i;
        int p = period;
        while (p < PERIODS && shelves.hasPlace(shelf, place)) {
            long n = shelves.read(shelf, place);
            if (n < 0 || n > MOST_SUPPLY) break;
            now.supplies[item * PERIODS + p] = (int) n;
            place++;
            p++;
        }
        noteChange();
        return p - period;
    }

    public int lefts(int shelf, int i) {
        if (!shelves.has(shelf)) return BAD;
        if (shelves.isEmpty(shelf)) return NOTHING;
        if (i < 0) return PLACE;
        int p = 0;
        while (p < PERIODS && shelves.hasPlace(shelf, i + p)) {
            shelves.write(shelf, i + p, leftAt(p + 1, p + 1, p + 1));
            p++;
        }
        return p;
    }

    // ---- changes, the image

    public int undo() {
        if (history.done == 0) return STATE;
        layStepBack(history.stepBy(-1));
        return history.done;
    }

    public int redo() {
        if (history.again == 0) return STATE;
        layStepBack(history.stepBy(1));
        return history.again;
    }

    public int image() {
        picture.copyOf(now, book.size);
        pictured = true;
        return howMany(PROMISED);
    }

    public int back() {
        if (!pictured) return STATE;
        layBack(picture);
        history.startFrom(now, book.size);
        return howMany(PROMISED);
    }

    public int count(int what) {
        switch (what) {
            case 0: return book.size;
            case 1: return howMany(ASKED);
            case 2: return howMany(PROMISED);
            case 3: return howMany(GONE);
            case 4: return tape.size;
            case 5: return history.done;
            case 6: return history.again;
            case 7: return allSupplies();
            case 8: return amountOf(-1, setOf(PROMISED));
            default: return BAD;
        }
    }

    // ---- what is asked of arguments

    private static boolean within(int n, int least, int most) {
        return n >= least && n <= most;
    }

    private static boolean isPeriod(int period) {
        return within(period, 0, PERIODS - 1);
    }

    private static boolean isSupply(int item, int period) {
        return within(item, 0, ITEMS - 1) && isPeriod(period);
    }

    private static boolean isGroup(int group) {
        return within(group, 0, GROUPS - 1);
    }

    private boolean isOrder(int order) {
        return within(order, 0, book.size - 1);
    }

    // ---- sets of ORDERS (bits by their numbers)

    private static int bit(int order) {
        return 1 << order;
    }

    private int setOf(int kind) {
        int set = 0;
        for (int k = 0; k < book.size; k++) {
            if (now.kinds[k] == kind) set |= bit(k);
        }
        return set;
    }

    private int howMany(int kind) {
        return Integer.bitCount(setOf(kind));
    }

    /** The AMOUNTS together of those of a set that are of a GROUP (-1: of any). */
    private int amountOf(int group, int set) {
        int sum = 0;
        for (int k = 0; k < book.size; k++) {
            if ((set & bit(k)) != 0 && (group == -1 || book.group[k] == group)) sum += book.amount[k];
        }
        return sum;
    }

    private int allSupplies() {
        int sum = 0;
        for (int n : now.supplies) sum += n;
        return sum;
    }

    private int cutOf(int group) {
        return allSupplies() * now.shares[group] / 100;
    }

    /** What a GROUP's SHARE leaves beside a set; below 0 if the set has more. */
    private int roomOf(int group, int set) {
        return cutOf(group) - amountOf(group, set);
    }

    // ---- meeting

    /** Whether a set can be MET together; what it leaves lies in the steps then. */
    private boolean areMet(int set) {
        steps.lay(book, now, set);
        return steps.leftIn(steps.tightest()) >= 0;
    }

    /** Whether an ORDER can be PROMISED beside those that the steps count, which are MET. */
    private boolean fitsBeside(int order, int promised) {
        return steps.least(book.items[order], now.latest[order]) >= book.amount[order]
            && book.amount[order] <= roomOf(book.group[order], promised);
    }

    private int earliest(int order, int room) {
        if (book.amount[order] > room) return NOT;
        for (int p = 0; p < PERIODS; p++) {
            if (steps.least(book.items[order], p) >= book.amount[order]) return p;
        }
        return NOT;
    }

    private int asMuch(int order, int room) {
        int most = Math.min(Math.min(MOST_AMOUNT, room), steps.least(book.items[order], now.latest[order]));
        return most > 0 ? most : NOT;
    }

    /** LEFT at one STEP, its numbers one more than they are. */
    private int leftAt(int first, int second, int third) {
        int sum = 0;
        for (int p = 0; p < PERIODS; p++) {
            if (p < first) sum += now.supplies[p];
            if (p < second) sum += now.supplies[PERIODS + p];
            if (p < third) sum += now.supplies[2 * PERIODS + p];
        }
        for (int k = 0; k < book.size; k++) {
            int items = book.items[k];
            int latest = now.latest[k];
            if (now.kinds[k] == PROMISED && startOf(items, 0, latest) <= first
                && startOf(items, 1, latest) <= second && startOf(items, 2, latest) <= third) sum -= book.amount[k];
        }
        return sum;
    }

    /** The least number of an ITEM, one more than it is, from which on a STEP counts an ORDER. */
    private static int startOf(int items, int item, int latest) {
        return (items >> item & 1) == 0 ? 0 : latest + 1;
    }

    /** A STEP as it is told. */
    private static int stepOf(int cell) {
        return cell / SQUARE * 10000 + cell / SIDE % SIDE * 100 + cell % SIDE;
    }

    private void exchangeLatest(int order, int other) {
        int latest = now.latest[order];
        now.latest[order] = now.latest[other];
        now.latest[other] = latest;
    }

    // ---- being late

    private boolean isAhead(int order, int other) {
        int more = book.rank[order] - book.rank[other];
        return more > 0 || (more == 0 && order < other);
    }

    private boolean isLate(int order) {
        return now.kinds[order] == PROMISED && (keptOnes() & bit(order)) == 0;
    }

    /** The set of KEPT ones; it is sought once behind each change, as many calls ask for it. */
    private int keptOnes() {
        if (keptKnown) return keptSet;
        int promised = setOf(PROMISED);
        keptSet = 0;
        steps.lay(book, now, keptSet);
        for (int rank = MOST_RANK; rank >= 0; rank--) {
            for (int k = 0; k < book.size; k++) {
                if (book.rank[k] != rank || (promised & bit(k)) == 0) continue;
                if (steps.least(book.items[k], now.latest[k]) < book.amount[k]) continue;
                steps.take(book.items[k], now.latest[k], book.amount[k]);
                keptSet |= bit(k);
            }
        }
        keptKnown = true;
        return keptSet;
    }

    private void printLedger(int order, boolean late) {
        print.clear();
        print.number(order);
        print.sign(':');
        print.number(book.amount[order]);
        for (int item = 0; item < ITEMS; item++) {
            if ((book.items[order] >> item & 1) != 0) print.sign((char) ('a' + item));
        }
        print.sign('@');
        print.number(now.latest[order]);
        print.sign('g');
        print.number(book.group[order]);
        print.sign('r');
        print.number(book.rank[order]);
        print.sign(' ');
        switch (now.kinds[order]) {
            case ASKED: print.word("asked"); break;
            case GONE: print.word("gone"); break;
            default: print.word(late ? "late" : "promised");
        }
    }

    // ---- changing

    private int become(int order, int kind) {
        now.kinds[order] = kind;
        noteChange();
        return howMany(PROMISED);
    }

    private void noteChange() {
        keptKnown = false;
        history.note(now, book.size);
    }

    private void layBack(State past) {
        now.copyOf(past, past.known);
        for (int k = past.known; k < book.size; k++) now.kinds[k] = ASKED;
        keptKnown = false;
    }

    /** ORDERS that came since have had nothing done to them ahead of the CHANGE, so that LATEST is as it was told. */
    private void layStepBack(State past) {
        layBack(past);
        for (int k = past.known; k < book.size; k++) now.latest[k] = book.told[k];
    }

    /** ORDERS as their texts tell them; these never change, so that no image needs them. */
    private static final class Book {
        private final int[] amount = new int[ORDERS];
        private final int[] items = new int[ORDERS];
        private final int[] told = new int[ORDERS];
        private final int[] group = new int[ORDERS];
        private final int[] rank = new int[ORDERS];
        private int size;
    }

    /** All that CHANGES change. */
    private static final class State {
        private final int[] supplies = new int[ITEMS * PERIODS];
        private final int[] shares = new int[GROUPS];
        private final int[] kinds = new int[ORDERS];
        private final int[] latest = new int[ORDERS];
        /** How many ORDERS there were when this was kept: what lies behind them tells nothing. */
        private int known;

        State() {
            Arrays.fill(shares, MOST_SHARE);
        }

        void copyOf(State other, int orders) {
            known = Math.max(0, Math.min(orders, ORDERS));
            System.arraycopy(other.supplies, 0, supplies, 0, supplies.length);
            System.arraycopy(other.shares, 0, shares, 0, shares.length);
            System.arraycopy(other.kinds, 0, kinds, 0, known);
            System.arraycopy(other.latest, 0, latest, 0, known);
        }
    }

    /** The states behind the CHANGES that can be UNDONE or DONE AGAIN; the first is ahead of all of these. */
    private static final class History {
        private final State[] line = new State[CHANGES + 1];
        private int done;
        private int again;

        History() {
            for (int i = 0; i < line.length; i++) line[i] = new State();
        }

        void note(State state, int orders) {
            if (done < CHANGES) done++;
            else dropFirst();
            again = 0;
            line[done].copyOf(state, orders);
        }

        State stepBy(int by) {
            done = Math.max(0, Math.min(CHANGES, done + by));
            again -= by;
            return line[done];
        }

        void startFrom(State state, int orders) {
            done = 0;
            again = 0;
            line[0].copyOf(state, orders);
        }

        /** The first one's object is used again as the last. */
        private void dropFirst() {
            State first = line[0];
            for (int i = 1; i < line.length; i++) line[i - 1] = line[i];
            line[line.length - 1] = first;
        }
    }

    /** THE TAPE and how it is read. */
    private static final class Tape {
        private final char[] signs = new char[TAPE];
        private int size;
        private int at;
        private int fault;

        boolean isFull() {
            return size >= TAPE;
        }

        void append(char sign) {
            if (isFull()) return;
            signs[size] = sign;
            size++;
        }

        void clear() {
            size = 0;
        }

        /** Writes LINES behind the ORDERS of the book, which counts them just if no FAULT is found: -1, or the FAULT. */
        int readInto(Book book) {
            at = 0;
            fault = -1;
            for (int k = book.size; k < ORDERS; k++) {
                readLine(book, k);
                if (fault >= 0) return fault;
                if (at >= size) {
                    book.size = k + 1;
                    return -1;
                }
                if (!skip(';')) return at;
            }
            return at;
        }

        private void readLine(Book book, int k) {
            book.amount[k] = readNumber(1, MOST_AMOUNT);
            if (fault < 0) book.items[k] = readItems();
            if (fault < 0 && !skip('@')) fault = at;
            if (fault < 0) book.told[k] = readNumber(0, PERIODS - 1);
            if (fault < 0) book.group[k] = readMarked('g', GROUPS - 1);
            if (fault < 0) book.rank[k] = readMarked('r', MOST_RANK);
        }

        /** One or two figures. */
        private int readNumber(int least, int most) {
            int begin = at;
            int value = 0;
            while (at < begin + 2 && isFigure(sign())) {
                value = value * 10 + sign() - '0';
                at++;
            }
            if (at == begin || value < least || value > most) fault = begin;
            return value;
        }

        private int readItems() {
            int items = 0;
            while (at < size && sign() >= 'a' && sign() < 'a' + ITEMS) {
                int item = 1 << (sign() - 'a');
                if ((items & item) != 0) {
                    fault = at;
                    return items;
                }
                items |= item;
                at++;
            }
            if (items == 0) fault = at;
            return items;
        }

        /** A letter that may be there, with one figure behind it then; 0, if it isn't there. */
        private int readMarked(char letter, int most) {
            if (!skip(letter)) return 0;
            int value = sign() - '0';
            if (!isFigure(sign()) || value > most) {
                fault = at;
                return 0;
            }
            at++;
            return value;
        }

        /** What stands where one looks; a sign that no TAPE has, behind its end. */
        private char sign() {
            return at < size && at < TAPE ? signs[at] : (char) 0;
        }

        private boolean skip(char sign) {
            if (sign() != sign) return false;
            at++;
            return true;
        }

        private static boolean isFigure(char sign) {
            return sign >= '0' && sign <= '9';
        }
    }

    /** What is LEFT at every STEP, beside a set of ORDERS that are counted as PROMISED. */
    private static final class Steps {
        private final int[] left = new int[CELLS];
        /** All SUPPLIES of each ITEM up to a number, which is one more than it is. */
        private final int[] upTo = new int[ITEMS * SIDE];

        void lay(Book book, State state, int set) {
            sumSupplies(state);
            Arrays.fill(left, 0);
            if (set != 0) {
                for (int k = 0; k < book.size; k++) {
                    if ((set & bit(k)) != 0) left[corner(book.items[k], state.latest[k])] -= book.amount[k];
                }
                spread();
            }
            int cell = 0;
            for (int a = 0; a < SIDE; a++) {
                for (int b = 0; b < SIDE; b++) {
                    int both = upTo[a] + upTo[SIDE + b];
                    for (int c = 0; c < SIDE; c++) {
                        left[cell] += both + upTo[2 * SIDE + c];
                        cell++;
                    }
                }
            }
        }

        /** Counts one ORDER more. */
        void take(int items, int latest, int amount) {
            for (int a = startOf(items, 0, latest); a < SIDE; a++) {
                for (int b = startOf(items, 1, latest); b < SIDE; b++) {
                    int line = a * SQUARE + b * SIDE;
                    for (int c = startOf(items, 2, latest); c < SIDE; c++) left[line + c] -= amount;
                }
            }
        }

        /** The least LEFT at STEPS that would count an ORDER. */
        int least(int items, int latest) {
            int least = left[CELLS - 1];
            for (int a = startOf(items, 0, latest); a < SIDE; a++) {
                for (int b = startOf(items, 1, latest); b < SIDE; b++) {
                    int line = a * SQUARE + b * SIDE;
                    for (int c = startOf(items, 2, latest); c < SIDE; c++) least = Math.min(least, left[line + c]);
                }
            }
            return least;
        }

        /** The place at which least is LEFT, of several the first. */
        int tightest() {
            int best = 0;
            for (int cell = 1; cell < CELLS; cell++) {
                if (left[cell] < left[best]) best = cell;
            }
            return best;
        }

        int leftIn(int cell) {
            return cell >= 0 && cell < CELLS ? left[cell] : 0;
        }

        /** The least LEFT at STEPS that have a SUPPLY and don't count the ORDER: so much of it can go to the ORDER. */
        int leastWithout(int items, int latest, int item, int period) {
            int first = startOf(items, 0, latest);
            int second = startOf(items, 1, latest);
            int third = startOf(items, 2, latest);
            int least = MOST_SUPPLY;
            int cell = 0;
            for (int a = 0; a < SIDE; a++) {
                for (int b = 0; b < SIDE; b++) {
                    for (int c = 0; c < SIDE; c++) {
                        boolean counted = a >= first && b >= second && c >= third;
                        if (!counted && numberOf(item, a, b, c) > period) least = Math.min(least, left[cell]);
                        cell++;
                    }
                }
            }
            return least;
        }

        /**
         * The most by which ORDERS counted at a STEP that has not the SUPPLY take more than is in that STEP and in the
         * ORDER's own one together: with the ORDER's AMOUNT, so much of these must come out of the SUPPLY.
         */
        int needOf(int items, int latest, int item, int period) {
            int first = startOf(items, 0, latest);
            int second = startOf(items, 1, latest);
            int third = startOf(items, 2, latest);
            int most = -suppliesTo(PERIODS, PERIODS, PERIODS);
            int cell = 0;
            for (int a = 0; a < SIDE; a++) {
                for (int b = 0; b < SIDE; b++) {
                    for (int c = 0; c < SIDE; c++) {
                        if (numberOf(item, a, b, c) <= period) {
                            int both = suppliesTo(Math.max(a, first), Math.max(b, second), Math.max(c, third));
                            most = Math.max(most, suppliesTo(a, b, c) - left[cell] - both);
                        }
                        cell++;
                    }
                }
            }
            return most;
        }

        private int suppliesTo(int a, int b, int c) {
            return upTo[a] + upTo[SIDE + b] + upTo[2 * SIDE + c];
        }

        private static int numberOf(int item, int a, int b, int c) {
            return item == 0 ? a : item == 1 ? b : c;
        }

        private static int corner(int items, int latest) {
            return startOf(items, 0, latest) * SQUARE + startOf(items, 1, latest) * SIDE + startOf(items, 2, latest);
        }

        private void sumSupplies(State state) {
            for (int item = 0; item < ITEMS; item++) {
                int sum = 0;
                for (int p = 0; p < PERIODS; p++) {
                    upTo[item * SIDE + p] = sum;
                    sum += state.supplies[item * PERIODS + p];
                }
                upTo[item * SIDE + PERIODS] = sum;
            }
        }

        /** From what begins in each place to all that begins there or ahead of it, ITEM by ITEM. */
        private void spread() {
            for (int cell = SQUARE; cell < CELLS; cell++) left[cell] += left[cell - SQUARE];
            for (int slice = 0; slice < CELLS; slice += SQUARE) {
                for (int i = SIDE; i < SQUARE; i++) left[slice + i] += left[slice + i - SIDE];
            }
            for (int line = 0; line < CELLS; line += SIDE) {
                for (int i = 1; i < SIDE; i++) left[line + i] += left[line + i - 1];
            }
        }
    }

    /** The best filling: sets of ASKED ORDERS are bits by how manieth ASKED ones. */
    private static final class Filling {
        private static final int SETS = 1 << PICKS;

        private final int[] picks = new int[PICKS];
        private final int[] sums = new int[SETS];
        /** The least LEFT at STEPS that would count just that set. */
        private final int[] tight = new int[SETS];
        /** By ITEM and number of a STEP: the set of those that the number doesn't keep from being counted. */
        private final int[] counted = new int[ITEMS * SIDE];
        private final int[] taken = new int[GROUPS];
        private int size;
        private int best;

        void pick(Book book, State state, int asked) {
            size = 0;
            Arrays.fill(counted, 0);
            for (int k = 0; k < book.size && size < PICKS; k++) {
                if ((asked & bit(k)) == 0) continue;
                for (int item = 0; item < ITEMS; item++) {
                    int start = startOf(book.items[k], item, state.latest[k]);
                    for (int q = start; q < SIDE; q++) counted[item * SIDE + q] |= 1 << size;
                }
                picks[size] = k;
                size++;
            }
            for (int set = 0; set < SETS; set++) {
                sums[set] = 0;
                for (int j = 0; j < size; j++) {
                    if ((set >> j & 1) != 0) sums[set] += book.amount[picks[j]];
                }
            }
        }

        void tighten(Steps steps) {
            Arrays.fill(tight, ANY);
            int cell = 0;
            for (int a = 0; a < SIDE; a++) {
                for (int b = 0; b < SIDE; b++) {
                    int both = counted[a] & counted[SIDE + b];
                    for (int c = 0; c < SIDE; c++) {
                        int set = both & counted[2 * SIDE + c];
                        tight[set] = Math.min(tight[set], steps.left[cell]);
                        cell++;
                    }
                }
            }
        }

        void seek(Book book, int[] rooms) {
            best = 0;
            for (int set = 1; set < 1 << size; set++) {
                if (sums[set] > sums[best] && haveRoom(book, rooms, set) && areMet(set)) best = set;
            }
        }

        private boolean haveRoom(Book book, int[] rooms, int set) {
            Arrays.fill(taken, 0);
            for (int j = 0; j < size; j++) {
                if ((set >> j & 1) != 0) taken[book.group[picks[j]]] += book.amount[picks[j]];
            }
            for (int g = 0; g < GROUPS; g++) {
                if (taken[g] > 0 && taken[g] > rooms[g]) return false;
            }
            return true;
        }

        private boolean areMet(int set) {
            for (int part = 0; part < SETS; part++) {
                if (sums[set & part] > tight[part]) return false;
            }
            return true;
        }
    }

    /** SHELVES and their ROWS, all in one array. */
    private static final class Shelves {
        private final long[] places = new long[SHELVES * ROW];
        private final int[] sizes = new int[SHELVES];

        Shelves() {
            Arrays.fill(sizes, -1);
        }

        boolean has(int shelf) {
            return shelf >= 0 && shelf < SHELVES;
        }

        boolean isEmpty(int shelf) {
            return has(shelf) && sizes[shelf] < 0;
        }

        boolean hasPlace(int shelf, int i) {
            return has(shelf) && i >= 0 && i < sizes[shelf];
        }

        void lay(int shelf, int size) {
            if (!has(shelf)) return;
            sizes[shelf] = Math.min(size, ROW);
            for (int i = 0; i < ROW; i++) places[shelf * ROW + i] = 0L;
        }

        long read(int shelf, int i) {
            return hasPlace(shelf, i) ? places[shelf * ROW + i] : 0L;
        }

        void write(int shelf, int i, long v) {
            if (hasPlace(shelf, i)) places[shelf * ROW + i] = v;
        }
    }

    /** What is printed, in a row that is used again. */
    private static final class Print {
        private final char[] signs = new char[PRINT];
        private int size;

        void clear() {
            size = 0;
        }

        void sign(char sign) {
            if (size >= PRINT) return;
            signs[size] = sign;
            size++;
        }

        /** A number 0 .. 99. */
        void number(int n) {
            if (n >= 10) sign((char) ('0' + n / 10));
            sign((char) ('0' + n % 10));
        }

        void word(String word) {
            for (int i = 0; i < word.length(); i++) sign(word.charAt(i));
        }

        int signAt(int i) {
            return i >= 0 && i < size && i < PRINT ? signs[i] : 0;
        }
    }
}
