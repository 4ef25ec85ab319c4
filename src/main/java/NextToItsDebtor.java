/** A garden of cells in which seeds of creditors come up next to those who owe. */
public final class NextToItsDebtor {
    public static final int NONE = -1;

    private static final int BAD = -2;
    private static final int OTHER = -3;
    private static final int NOTHING = -4;
    private static final int STUCK = -5;
    private static final int FULL = -6;
    private static final int BAD_NET = -1000002;
    private static final int FINE = 0;

    private static final int MOST_SHELVES = 8;
    private static final int MOST_TOLD = 10;
    private static final int MOST_DAYS = 99;

    private final Garden now = new Garden();
    private final Garden kept = new Garden();
    private final Garden trial = new Garden();
    private boolean isKept = false;
    private final Shelf[] shelves = new Shelf[MOST_SHELVES];
    private final Reader reader = new Reader();
    private final Ways ways = new Ways();
    private final Ring round = new Ring();
    private final Cover cover = new Cover();
    private final int[] refusals = new int[5];
    private final int[] showing = new int[Garden.MOST_PEOPLE];

    public NextToItsDebtor() {
        for (int s = 0; s < MOST_SHELVES; s++) {
            shelves[s] = new Shelf();
        }
    }

    // ---- shelves

    public int row(int s, int sort, int n) {
        if (!isShelf(s) || !Shelf.isSort(sort) || n < 0 || n > Shelf.MOST_ELEMENTS) {
            return refuse(BAD);
        }
        shelves[s].takeRow(sort, n);
        return 1;
    }

    public int set(int s, int i, long v) {
        if (!isShelf(s)) {
            return refuse(BAD);
        }
        int trouble = shelves[s].noRow();
        if (trouble != FINE) {
            return refuse(trouble);
        }
        if (!shelves[s].hasElement(i)) {
            return refuse(BAD);
        }
        shelves[s].put(i, v);
        return 1;
    }

    public int copy(int p, int q, int i, int j, int n) {
        if (!isShelf(p) || !isShelf(q)) {
            return refuse(BAD);
        }
        Shelf from = shelves[p];
        Shelf to = shelves[q];
        if (from.holdsSeed() || to.holdsSeed()) {
            return refuse(OTHER);
        }
        if (from.isEmpty() || to.isEmpty()) {
            return refuse(NOTHING);
        }
        if (from.what != to.what) {
            return refuse(OTHER);
        }
        if (!from.hasElements(i, n) || !to.hasElements(j, n)) {
            return refuse(BAD);
        }
        System.arraycopy(from.elements, i, to.elements, j, n);
        return n;
    }

    public long element(int s, int i) {
        if (!isShelf(s) || !shelves[s].hasElement(i)) {
            return 0L;
        }
        return shelves[s].elements[i];
    }

    public int holds(int s) {
        return isShelf(s) ? shelves[s].what : NONE;
    }

    public int show(int s, int seed) {
        if (!isShelf(s) || (seed != NONE && !now.isSeed(seed))) {
            return refuse(BAD);
        }
        if (seed == NONE) {
            shelves[s].clear();
        } else {
            shelves[s].takeSeed(seed);
        }
        return 1;
    }

    public int says(int s, int kind) {
        if (!isShelf(s) || !Seed.isKind(kind)) {
            return refuse(BAD);
        }
        Shelf shelf = shelves[s];
        if (shelf.isEmpty()) {
            return refuse(NOTHING);
        }
        int number = shelf.seedNumber();
        if (!now.isSeed(number) || !now.seeds[number].isOf(kind)) {
            return refuse(OTHER);
        }
        return saysAs(now.seeds[number], kind);
    }

    private int saysAs(Seed it, int kind) {
        switch (kind) {
            case Seed.PLAIN:
                return it.creditor;
            case Seed.SHY:
            case Seed.BOLD:
                return it.span();
            case Seed.RANK:
                return now.debtors();
            default:
                return it.price();
        }
    }

    // ---- the garden is laid out

    public int wall(int cell, boolean is) {
        if (!Cells.isCell(cell)) {
            return refuse(BAD);
        }
        if (is && now.isStoodOn(cell)) {
            return refuse(STUCK);
        }
        if (now.hasWall(cell) == is) {
            return 0;
        }
        now.putWall(cell, is);
        return 1;
    }

    public int person(int cell) {
        if (!Cells.isCell(cell) || now.hasWall(cell)) {
            return refuse(BAD);
        }
        if (now.people >= Garden.MOST_PEOPLE) {
            return refuse(FULL);
        }
        return now.addPerson(cell);
    }

    public int sow(int kind, int a, int cell, int creditor) {
        if (!Seed.isKind(kind) || a < 0 || a > Seed.MOST_A || !Cells.isCell(cell) || !now.isPerson(creditor)) {
            return refuse(BAD);
        }
        if (now.sown >= Garden.MOST_SEEDS) {
            return refuse(FULL);
        }
        return now.addSeed(kind, a, cell, creditor);
    }

    public int owes(int x, int y, int coins) {
        if (!isPair(x, y) || coins < 0 || coins > Debts.MOST_COINS) {
            return refuse(BAD);
        }
        int ahead = now.debts.of(x, y);
        now.debts.put(x, y, coins);
        return ahead;
    }

    public int feed(int letter) {
        if (letter < 0 || letter > 255) {
            return refuse(BAD);
        }
        if (reader.tape.isFull()) {
            return refuse(FULL);
        }
        reader.tape.add(letter);
        return reader.tape.size;
    }

    public int wipe() {
        int ahead = reader.tape.size;
        reader.tape.size = 0;
        return ahead;
    }

    public int garden() {
        trial.become(now);
        int read = reader.readAll(trial);
        reader.tape.size = 0;
        if (read < 0) {
            refuse(BAD);
            return read;
        }
        now.become(trial);
        return read;
    }

    // ---- what there is

    public int seedOf(int seed, int what) {
        if (!now.isSeed(seed)) {
            return refuse(BAD);
        }
        Seed it = now.seeds[seed];
        switch (what) {
            case 0:
                return it.kind;
            case 1:
                return it.a;
            case 2:
                return it.cell;
            case 3:
                return it.creditor;
            case 4:
                return it.span();
            case 5:
                return now.showers(seed) != 0 ? 1 : 0;
            default:
                return refuse(BAD);
        }
    }

    public int personOf(int person, int what) {
        if (!now.isPerson(person)) {
            return refuse(BAD);
        }
        switch (what) {
            case 0:
                return now.places[person];
            case 1:
                return now.debts.owedBy(person);
            case 2:
                return now.debts.owedTo(person);
            case 3:
                return now.sown - Integer.bitCount(now.seedsBut(person));
            case 4:
                return Integer.bitCount(now.shownBy(person));
            default:
                return refuse(BAD);
        }
    }

    public int debt(int x, int y) {
        if (!now.isPerson(x) || !now.isPerson(y)) {
            return refuse(BAD);
        }
        return now.debts.of(x, y);
    }

    public int isWall(int cell) {
        if (!Cells.isCell(cell)) {
            return refuse(BAD);
        }
        return now.hasWall(cell) ? 1 : 0;
    }

    // ---- what is up

    public int up(int person) {
        if (person == NONE) {
            return now.shown();
        }
        if (!now.isPerson(person)) {
            return refuse(BAD);
        }
        return now.shownBy(person);
    }

    public int by(int seed) {
        if (!now.isSeed(seed)) {
            return refuse(BAD);
        }
        return now.showers(seed);
    }

    // ---- ways by which nothing shows

    public int quiet(int person, int cell) {
        if (!now.isPerson(person) || !Cells.isCell(cell)) {
            return refuse(BAD);
        }
        return Cells.has(now.quietFor(person), cell) ? 1 : 0;
    }

    public int way(int person, int cell, int i) {
        if (!now.isPerson(person) || !Cells.isCell(cell) || i < NONE) {
            return refuse(BAD);
        }
        int from = now.places[person];
        int steps = ways.find(from, cell, now.quietFor(person));
        if (steps == NONE || i == NONE) {
            return steps;
        }
        if (i >= steps) {
            return refuse(STUCK);
        }
        return ways.cellOf(from, steps, i);
    }

    public int bar(int person, int cell) {
        if (!now.isPerson(person) || !Cells.isCell(cell)) {
            return refuse(BAD);
        }
        if (hasWay(person, cell, now.quietFor(person))) {
            return NONE;
        }
        for (int other = 0; other < now.people; other++) {
            if (hasWay(person, cell, now.quietAmong(person, now.seedsBut(other)))) {
                return other;
            }
        }
        return NONE;
    }

    private boolean hasWay(int person, int cell, long quietCells) {
        return ways.find(now.places[person], cell, quietCells) != NONE;
    }

    public int reach(int person) {
        if (!now.isPerson(person)) {
            return refuse(BAD);
        }
        return Long.bitCount(Ways.flood(now.places[person], now.quietFor(person)));
    }

    public int loud(int person) {
        if (!now.isPerson(person)) {
            return refuse(BAD);
        }
        return Long.bitCount(~now.walls & ~now.quietFor(person));
    }

    public int together(int cell) {
        if (!Cells.isCell(cell)) {
            return refuse(BAD);
        }
        int who = 0;
        for (int p = 0; p < now.people; p++) {
            if (hasWay(p, cell, now.quietFor(p))) {
                who |= 1 << p;
            }
        }
        return who;
    }

    public int calm() {
        long cells = ~now.walls;
        for (int p = 0; p < now.people; p++) {
            cells &= now.quietFor(p);
        }
        return Long.bitCount(cells);
    }

    public int idle() {
        int woken = 0;
        for (int p = 0; p < now.people; p++) {
            woken |= now.enoughOf(p);
        }
        return now.allSeeds() & ~woken;
    }

    public int worst() {
        if (now.people == 0) {
            return refuse(STUCK);
        }
        int found = 0;
        int most = NONE;
        for (int p = 0; p < now.people; p++) {
            int count = Integer.bitCount(now.shownBy(p));
            if (count > most) {
                most = count;
                found = p;
            }
        }
        return found;
    }

    // ---- debts

    public int chain(int x, int y) {
        if (!isPair(x, y)) {
            return refuse(BAD);
        }
        return now.debts.links(x, y);
    }

    public int poorest() {
        if (now.people == 0) {
            return refuse(STUCK);
        }
        int found = 0;
        for (int p = 1; p < now.people; p++) {
            if (now.debts.balance(p) < now.debts.balance(found)) {
                found = p;
            }
        }
        return found;
    }

    public int due(int x, int y) {
        if (!isPair(x, y)) {
            return refuse(BAD);
        }
        return now.dueOf(x, y);
    }

    public int bare() {
        int all = 0;
        for (int p = 0; p < now.people; p++) {
            int paid = now.allDueOf(p);
            // Whoever owes anybody still keeps the RANK ones up that he is near enough to.
            if (now.debts.owedBy(p) > paid && now.isNearRank(p)) {
                return NONE;
            }
            all += paid;
        }
        return all;
    }

    public int net(int person) {
        if (!now.isPerson(person)) {
            refuse(BAD);
            return BAD_NET;
        }
        return now.debts.balance(person);
    }

    public int mutual() {
        return now.debts.shared();
    }

    public int ring(int i) {
        if (i < NONE) {
            return refuse(BAD);
        }
        int size = round.find(now.debts);
        if (size == NONE || i == NONE) {
            return size;
        }
        if (i >= size) {
            return refuse(STUCK);
        }
        return round.people[i];
    }

    public int guess(int x, int y, int what) {
        if (!isPair(x, y) || what < 0 || what > 1) {
            return refuse(BAD);
        }
        boolean is = what == 0 ? now.mayOwe(x, y) : now.surelyOwes(x, y);
        return is ? 1 : 0;
    }

    // ---- told rows of cells

    public int tells(int s, int n, int i) {
        if (!isShelf(s) || n < 0 || n > MOST_TOLD || i < NONE) {
            return refuse(BAD);
        }
        Shelf shelf = shelves[s];
        int trouble = noTold(shelf, n);
        if (trouble != FINE) {
            return refuse(trouble);
        }
        if (!shelf.areCells(n)) {
            return refuse(STUCK);
        }
        int count = cover.find(shelf.cellBits(n));
        if (count == NONE || i == NONE) {
            return count;
        }
        if (i >= count) {
            return refuse(STUCK);
        }
        return cover.cells[i];
    }

    public int judge(int person, int s, int n) {
        int trouble = noWalk(person, s, n);
        if (trouble != FINE) {
            return refuse(trouble);
        }
        return wrongOf(person, shelves[s], n);
    }

    public int seen(int person, int s, int n) {
        int trouble = noTrueWalk(person, s, n);
        if (trouble != FINE) {
            return refuse(trouble);
        }
        long quietCells = now.quietFor(person);
        for (int i = 0; i < n; i++) {
            if (!Cells.has(quietCells, shelves[s].cellAt(i))) {
                return i;
            }
        }
        return NONE;
    }

    public int walk(int person, int s, int n) {
        int trouble = noTrueWalk(person, s, n);
        if (trouble != FINE) {
            return refuse(trouble);
        }
        if (n > 0) {
            now.places[person] = shelves[s].cellAt(n - 1);
        }
        return now.places[person];
    }

    private int noTrueWalk(int person, int s, int n) {
        int trouble = noWalk(person, s, n);
        if (trouble != FINE) {
            return trouble;
        }
        return wrongOf(person, shelves[s], n) == NONE ? FINE : STUCK;
    }

    private int noWalk(int person, int s, int n) {
        if (!isShelf(s) || n < 0 || n > Shelf.MOST_ELEMENTS || !now.isPerson(person)) {
            return BAD;
        }
        return noTold(shelves[s], n);
    }

    private static int noTold(Shelf shelf, int n) {
        int trouble = shelf.noRow();
        if (trouble != FINE) {
            return trouble;
        }
        return n > shelf.size ? BAD : FINE;
    }

    private int wrongOf(int person, Shelf shelf, int n) {
        int ahead = now.places[person];
        for (int i = 0; i < n; i++) {
            int cell = shelf.cellAt(i);
            if (cell == NONE || !Cells.has(Cells.beside(Cells.bit(ahead)), cell) || now.hasWall(cell)) {
                return i;
            }
            ahead = cell;
        }
        return NONE;
    }

    // ---- in truth

    public int step(int person, int way) {
        if (!now.isPerson(person) || way < 0 || way > 3) {
            return refuse(BAD);
        }
        if (!now.go(person, way)) {
            return refuse(STUCK);
        }
        return now.places[person];
    }

    public int pay(int x, int y, int coins) {
        if (!isPair(x, y) || coins < 1 || coins > Debts.MOST_COINS) {
            return refuse(BAD);
        }
        int left = now.debts.of(x, y) - coins;
        if (left < 0) {
            return refuse(STUCK);
        }
        now.debts.put(x, y, left);
        return left;
    }

    public int strike() {
        int all = now.debts.shared();
        now.debts.cancel();
        return all;
    }

    public int days(int n) {
        if (n < 1 || n > MOST_DAYS) {
            return refuse(BAD);
        }
        if (now.people == 0) {
            return refuse(STUCK);
        }
        for (int p = 0; p < now.people; p++) {
            showing[p] = now.shownBy(p);
        }
        int all = 0;
        for (int i = 0; i < n; i++) {
            int who = now.draw(now.people);
            now.go(who, now.draw(4));
            // Debts stand still on such a day, so only he who was drawn can change what is up.
            showing[who] = now.shownBy(who);
            all += countShowing();
        }
        return all;
    }

    private int countShowing() {
        int bits = 0;
        for (int p = 0; p < now.people; p++) {
            bits |= showing[p];
        }
        return Integer.bitCount(bits);
    }

    public int weed() {
        if (now.sown == 0) {
            return refuse(STUCK);
        }
        now.sown--;
        dropLostSeeds();
        return now.sown;
    }

    public int seed(int v) {
        int ahead = now.seedness;
        now.seedness = v;
        return ahead;
    }

    public int image() {
        kept.become(now);
        isKept = true;
        return 1;
    }

    public int back() {
        if (!isKept) {
            return refuse(STUCK);
        }
        now.become(kept);
        dropLostSeeds();
        return 1;
    }

    /** A shelf tells of a seed by its number alone: with no seed of that number it holds nothing. */
    private void dropLostSeeds() {
        for (int s = 0; s < MOST_SHELVES; s++) {
            if (shelves[s].holdsSeed() && !now.isSeed(shelves[s].seedNumber())) {
                shelves[s].clear();
            }
        }
    }

    public int status(int what) {
        if (what >= 12 && what < 12 + refusals.length) {
            return refusals[what - 12];
        }
        switch (what) {
            case 0:
                return now.people;
            case 1:
                return now.sown;
            case 2:
                return Long.bitCount(now.walls);
            case 3:
                return now.debts.all();
            case 4:
                return Integer.bitCount(now.shown());
            case 5:
                return now.debtors();
            case 6:
                return reader.tape.size;
            case 7:
                return now.seedness;
            case 8:
                return fullShelves();
            default:
                return NONE;
        }
    }

    private int fullShelves() {
        int count = 0;
        for (int s = 0; s < MOST_SHELVES; s++) {
            if (!shelves[s].isEmpty()) {
                count++;
            }
        }
        return count;
    }

    private static boolean isShelf(int s) {
        return s >= 0 && s < MOST_SHELVES;
    }

    private boolean isPair(int x, int y) {
        return now.isPerson(x) && now.isPerson(y) && x != y;
    }

    private int refuse(int code) {
        int i = BAD - code;
        if (i >= 0 && i < refusals.length) {
            refusals[i]++;
        }
        return code;
    }

    /** Cells, and sets of cells: bit c of a long stands for cell c. */
    private static final class Cells {
        private static final int COUNT = 64;
        private static final int SIDE = 8;
        private static final long FIRST_COLUMN = 0x0101010101010101L;
        private static final long LAST_COLUMN = 0x8080808080808080L;

        private static boolean isCell(int cell) {
            return cell >= 0 && cell < COUNT;
        }

        private static long bit(int cell) {
            return cell >= 0 && cell < COUNT ? 1L << cell : 0L;
        }

        private static boolean has(long cells, int cell) {
            return (cells & bit(cell)) != 0;
        }

        /** The first cell of a set that has one. */
        private static int lowest(long cells) {
            return Long.bitCount((cells & -cells) - 1);
        }

        private static long leftAndRight(long cells) {
            return ((cells & ~FIRST_COLUMN) >>> 1) | ((cells & ~LAST_COLUMN) << 1);
        }

        private static long upAndDown(long cells) {
            return (cells >>> SIDE) | (cells << SIDE);
        }

        private static long beside(long cells) {
            return leftAndRight(cells) | upAndDown(cells);
        }

        /** All cells that are no farther from a cell than so much. */
        private static long zone(int cell, int span) {
            long cells = bit(cell);
            for (int i = 0; i < span; i++) {
                cells |= leftAndRight(cells);
                cells |= upAndDown(cells);
            }
            return cells;
        }

        /** The cell that a step (0 up, 1 down, 2 left, 3 right) leads to, or NONE. */
        private static int after(int cell, int direction) {
            long from = bit(cell);
            long to = 0;
            if (direction == 0) {
                to = from >>> SIDE;
            } else if (direction == 1) {
                to = from << SIDE;
            } else if (direction == 2) {
                to = (from & ~FIRST_COLUMN) >>> 1;
            } else if (direction == 3) {
                to = (from & ~LAST_COLUMN) << 1;
            }
            return to == 0 ? NONE : lowest(to);
        }
    }

    /** Who owes whom how much. */
    private static final class Debts {
        private static final int MOST_COINS = 999;
        private static final int SIDE = Garden.MOST_PEOPLE;

        // Row x, column y: what x owes y; where there is nobody, and for himself, 0.
        private final int[] coins = new int[SIDE * SIDE];

        private void become(Debts other) {
            System.arraycopy(other.coins, 0, coins, 0, coins.length);
        }

        private int of(int x, int y) {
            return coins[x * SIDE + y];
        }

        private void put(int x, int y, int n) {
            coins[x * SIDE + y] = n;
        }

        private int owedBy(int x) {
            int sum = 0;
            for (int y = 0; y < SIDE; y++) {
                sum += of(x, y);
            }
            return sum;
        }

        private int owedTo(int y) {
            int sum = 0;
            for (int x = 0; x < SIDE; x++) {
                sum += of(x, y);
            }
            return sum;
        }

        private int balance(int person) {
            return owedTo(person) - owedBy(person);
        }

        private int all() {
            int sum = 0;
            for (int x = 0; x < SIDE; x++) {
                sum += owedBy(x);
            }
            return sum;
        }

        private int shared() {
            int sum = 0;
            for (int x = 0; x < SIDE; x++) {
                for (int y = x + 1; y < SIDE; y++) {
                    sum += Math.min(of(x, y), of(y, x));
                }
            }
            return sum;
        }

        private void cancel() {
            for (int x = 0; x < SIDE; x++) {
                for (int y = x + 1; y < SIDE; y++) {
                    int lesser = Math.min(of(x, y), of(y, x));
                    put(x, y, of(x, y) - lesser);
                    put(y, x, of(y, x) - lesser);
                }
            }
        }

        /** Bits of those whom one owes 1 at least. */
        private int creditorsOf(int x) {
            int who = 0;
            for (int y = 0; y < SIDE; y++) {
                if (of(x, y) > 0) {
                    who |= 1 << y;
                }
            }
            return who;
        }

        private int creditorsOfAll(int debtors) {
            int who = 0;
            for (int x = 0; x < SIDE; x++) {
                if ((debtors >>> x & 1) != 0) {
                    who |= creditorsOf(x);
                }
            }
            return who;
        }

        /** By how few debts x owes y, or NONE. */
        private int links(int x, int y) {
            int found = creditorsOf(x);
            for (int count = 1; count < SIDE; count++) {
                if ((found >>> y & 1) != 0) {
                    return count;
                }
                found |= creditorsOfAll(found);
            }
            return NONE;
        }
    }

    /** One seed; its place among the others is its number. */
    private static final class Seed {
        private static final int PLAIN = 0;
        private static final int SHY = 1;
        private static final int BOLD = 2;
        private static final int PROUD = 3;
        private static final int RANK = 4;
        private static final int LATE = 5;
        private static final int KINDS = 6;
        private static final int MOST_A = 9;
        private static final int[] ABOVE = {NONE, PLAIN, PLAIN, SHY, BOLD, PLAIN};
        private static final int[] SPANS = {1, 0, 2, 0, 2, 1};

        private int kind = PLAIN;
        private int a = 0;
        private int cell = 0;
        private int creditor = 0;

        private static boolean isKind(int kind) {
            return kind >= 0 && kind < KINDS;
        }

        private void become(Seed other) {
            fill(other.kind, other.a, other.cell, other.creditor);
        }

        private void fill(int newKind, int newA, int newCell, int newCreditor) {
            kind = newKind;
            a = newA;
            cell = newCell;
            creditor = newCreditor;
        }

        /** Whether it is of a kind or of one under it. */
        private boolean isOf(int wanted) {
            int k = kind;
            for (int i = 0; i < KINDS && isKind(k); i++) {
                if (k == wanted) {
                    return true;
                }
                k = ABOVE[k];
            }
            return false;
        }

        private int span() {
            return isKind(kind) ? SPANS[kind] : 0;
        }

        /** How many coins at least it takes. */
        private int price() {
            if (kind == PROUD) {
                return Math.max(1, 10 * a);
            }
            return kind == LATE ? Math.max(1, a) : 1;
        }

        /** Whether what is up of it tells of any debt to its creditor, however small. */
        private boolean isTelltale() {
            return kind == PLAIN || kind == SHY || kind == BOLD;
        }

        private long zone() {
            return Cells.zone(cell, span());
        }
    }

    /** All that an image keeps. */
    private static final class Garden {
        private static final int MOST_PEOPLE = 8;
        private static final int MOST_SEEDS = 16;

        private long walls = 0;
        private int people = 0;
        private final int[] places = new int[MOST_PEOPLE];
        private final Debts debts = new Debts();
        private int sown = 0;
        private final Seed[] seeds = new Seed[MOST_SEEDS];
        private int seedness = 1;

        private Garden() {
            for (int i = 0; i < MOST_SEEDS; i++) {
                seeds[i] = new Seed();
            }
        }

        private void become(Garden other) {
            walls = other.walls;
            people = other.people;
            System.arraycopy(other.places, 0, places, 0, MOST_PEOPLE);
            debts.become(other.debts);
            sown = other.sown;
            for (int i = 0; i < MOST_SEEDS; i++) {
                seeds[i].become(other.seeds[i]);
            }
            seedness = other.seedness;
        }

        private boolean isPerson(int person) {
            return person >= 0 && person < people;
        }

        private boolean isSeed(int number) {
            return number >= 0 && number < sown;
        }

        private boolean hasWall(int cell) {
            return Cells.has(walls, cell);
        }

        private void putWall(int cell, boolean is) {
            walls = is ? walls | Cells.bit(cell) : walls & ~Cells.bit(cell);
        }

        private boolean isStoodOn(int cell) {
            return peopleWithin(Cells.bit(cell)) != 0;
        }

        /** The caller sees to it that there is room. */
        private int addPerson(int cell) {
            places[people] = cell;
            people++;
            return people - 1;
        }

        /** The caller sees to it that there is room. */
        private int addSeed(int kind, int a, int cell, int creditor) {
            seeds[sown].fill(kind, a, cell, creditor);
            sown++;
            return sown - 1;
        }

        private int peopleWithin(long cells) {
            int who = 0;
            for (int p = 0; p < people; p++) {
                if (Cells.has(cells, places[p])) {
                    who |= 1 << p;
                }
            }
            return who;
        }

        /** How many of the people owe anybody. */
        private int debtors() {
            int count = 0;
            for (int p = 0; p < people; p++) {
                if (debts.owedBy(p) > 0) {
                    count++;
                }
            }
            return count;
        }

        private int allSeeds() {
            return (1 << sown) - 1;
        }

        /** Bits of all seeds but those of one creditor. */
        private int seedsBut(int creditor) {
            int bits = 0;
            for (int i = 0; i < sown; i++) {
                if (seeds[i].creditor != creditor) {
                    bits |= 1 << i;
                }
            }
            return bits;
        }

        /** Bits of the seeds for which one owes enough, wherever he stands. */
        private int enoughOf(int person) {
            boolean owesAnybody = debts.owedBy(person) > 0;
            int bits = 0;
            for (int i = 0; i < sown; i++) {
                Seed it = seeds[i];
                boolean is = it.kind == Seed.RANK ? owesAnybody : debts.of(person, it.creditor) >= it.price();
                if (is) {
                    bits |= 1 << i;
                }
            }
            return bits;
        }

        /** Bits of those among some seeds of whose reach a cell is. */
        private int near(int cell, int among) {
            int bits = 0;
            for (int i = 0; i < sown; i++) {
                if ((among >>> i & 1) != 0 && Cells.has(seeds[i].zone(), cell)) {
                    bits |= 1 << i;
                }
            }
            return bits;
        }

        private int shownBy(int person) {
            return near(places[person], enoughOf(person));
        }

        private int shown() {
            int bits = 0;
            for (int p = 0; p < people; p++) {
                bits |= shownBy(p);
            }
            return bits;
        }

        /** Bits of the people by whom a seed is up. */
        private int showers(int number) {
            int who = 0;
            for (int p = 0; p < people; p++) {
                if ((shownBy(p) >>> number & 1) != 0) {
                    who |= 1 << p;
                }
            }
            return who;
        }

        private long quietFor(int person) {
            return quietAmong(person, allSeeds());
        }

        /** The cells that would be quiet for one if there were but some of the seeds. */
        private long quietAmong(int person, int among) {
            int awake = enoughOf(person) & among;
            long loudCells = 0;
            for (int i = 0; i < sown; i++) {
                if ((awake >>> i & 1) != 0) {
                    loudCells |= seeds[i].zone();
                }
            }
            return ~walls & ~loudCells;
        }

        private int dueOf(int x, int y) {
            int owed = debts.of(x, y);
            int all = 0;
            for (int i = 0; i < sown; i++) {
                Seed it = seeds[i];
                if (it.creditor == y && it.kind != Seed.RANK && Cells.has(it.zone(), places[x])) {
                    all = Math.max(all, owed - it.price() + 1);
                }
            }
            return all;
        }

        private int allDueOf(int x) {
            int sum = 0;
            for (int y = 0; y < people; y++) {
                sum += dueOf(x, y);
            }
            return sum;
        }

        private boolean isNearRank(int person) {
            int bits = near(places[person], allSeeds());
            for (int i = 0; i < sown; i++) {
                if (seeds[i].kind == Seed.RANK && (bits >>> i & 1) != 0) {
                    return true;
                }
            }
            return false;
        }

        /** Bits of y's telltale seeds of whose reach x is. */
        private int telltales(int x, int y) {
            int bits = near(places[x], allSeeds() & ~seedsBut(y));
            for (int i = 0; i < sown; i++) {
                if (!seeds[i].isTelltale()) {
                    bits &= ~(1 << i);
                }
            }
            return bits;
        }

        private boolean mayOwe(int x, int y) {
            return (telltales(x, y) & ~shown()) == 0;
        }

        private boolean surelyOwes(int x, int y) {
            int bits = telltales(x, y) & shown();
            int aside = 1 << x | 1 << y;
            for (int i = 0; i < sown; i++) {
                if ((bits >>> i & 1) != 0 && (peopleWithin(seeds[i].zone()) & ~aside) == 0) {
                    return true;
                }
            }
            return false;
        }

        private boolean go(int person, int direction) {
            int cell = Cells.after(places[person], direction);
            if (cell == NONE || hasWall(cell)) {
                return false;
            }
            places[person] = cell;
            return true;
        }

        private int draw(int below) {
            seedness = seedness * 1103515245 + 12345;
            return below > 0 ? (seedness >>> 16) % below : 0;
        }
    }

    /** What a shelf holds: what is NONE, a row's sort, or SEED_ZERO and a seed's number. */
    private static final class Shelf {
        private static final int MOST_ELEMENTS = 40;
        private static final int SORTS = 5;
        private static final int SEED_ZERO = 10;

        private int what = NONE;
        private int size = 0;
        private final long[] elements = new long[MOST_ELEMENTS];

        private static boolean isSort(int sort) {
            return sort >= 0 && sort < SORTS;
        }

        private void clear() {
            what = NONE;
            size = 0;
        }

        private void takeSeed(int number) {
            what = SEED_ZERO + number;
            size = 0;
        }

        private void takeRow(int sort, int n) {
            what = sort;
            size = n;
            for (int i = 0; i < MOST_ELEMENTS; i++) {
                elements[i] = 0L;
            }
        }

        private boolean isEmpty() {
            return what == NONE;
        }

        private boolean holdsSeed() {
            return what >= SEED_ZERO;
        }

        private int seedNumber() {
            return holdsSeed() ? what - SEED_ZERO : NONE;
        }

        /** Why it can't be taken for a row: OTHER, NOTHING, or FINE. */
        private int noRow() {
            if (holdsSeed()) {
                return OTHER;
            }
            return isEmpty() ? NOTHING : FINE;
        }

        private boolean hasElement(int i) {
            return i >= 0 && i < size;
        }

        private boolean hasElements(int i, int n) {
            return i >= 0 && n >= 0 && n <= size - i;
        }

        private void put(int i, long v) {
            elements[i] = fit(v);
        }

        private long fit(long v) {
            switch (what) {
                case 0:
                    return (byte) v;
                case 1:
                    return (short) v;
                case 2:
                    return (int) v;
                case 4:
                    return v != 0 ? 1 : 0;
                default:
                    return v;
            }
        }

        /** The cell that element i tells, or NONE. */
        private int cellAt(int i) {
            if (!hasElement(i) || elements[i] < 0 || elements[i] >= Cells.COUNT) {
                return NONE;
            }
            return (int) elements[i];
        }

        private boolean areCells(int n) {
            for (int i = 0; i < n; i++) {
                if (cellAt(i) == NONE) {
                    return false;
                }
            }
            return true;
        }

        private long cellBits(int n) {
            long cells = 0;
            for (int i = 0; i < n; i++) {
                cells |= Cells.bit(cellAt(i));
            }
            return cells;
        }
    }

    /** Fewest steps over open cells. */
    private static final class Ways {
        // Element k: the cells from which the way to the wanted cell takes k steps.
        private final long[] layers = new long[Cells.COUNT];

        /** How many steps there are at least, or NONE; its cells can be asked for then. */
        private int find(int from, int to, long open) {
            if (from == to) {
                return 0;
            }
            if (!Cells.has(open, to)) {
                return NONE;
            }
            long unseen = (open | Cells.bit(from)) & ~Cells.bit(to);
            layers[0] = Cells.bit(to);
            for (int k = 1; k < layers.length; k++) {
                layers[k] = Cells.beside(layers[k - 1]) & unseen;
                if (Cells.has(layers[k], from)) {
                    return k;
                }
                unseen &= ~layers[k];
            }
            return NONE;
        }

        /** Cell i of the way just found: each time the lowest one that is a step nearer. */
        private int cellOf(int from, int steps, int i) {
            int cell = from;
            for (int k = steps - 1; k >= 0 && k >= steps - 1 - i; k--) {
                cell = Cells.lowest(Cells.beside(Cells.bit(cell)) & layers[k]);
            }
            return cell;
        }

        /** All cells that can be come to over open ones. */
        private static long flood(int from, long open) {
            long found = Cells.bit(from);
            for (int i = 0; i < Cells.COUNT; i++) {
                found |= Cells.beside(found) & open;
            }
            return found;
        }
    }

    /** The first smallest ring of debts. */
    private static final class Ring {
        private static final int LEAST = 3;

        private final int[] people = new int[Garden.MOST_PEOPLE];
        private final int[] creditors = new int[Garden.MOST_PEOPLE];

        /** How many people are in it, or NONE. */
        private int find(Debts debts) {
            for (int x = 0; x < creditors.length; x++) {
                creditors[x] = debts.creditorsOf(x);
            }
            for (int size = LEAST; size <= people.length; size++) {
                for (int first = 0; first < people.length; first++) {
                    people[0] = first;
                    if (closes(creditors, people, 1, size, 1 << first)) {
                        return size;
                    }
                }
            }
            return NONE;
        }

        /** Goes on from the row's first few; used are bits of those; none is below the first. */
        private static boolean closes(int[] creditors, int[] row, int count, int size, int used) {
            if (count < 1 || count > row.length || size > row.length) {
                return false;
            }
            int owed = creditors[row[count - 1]];
            if (count >= size) {
                return (owed >>> row[0] & 1) != 0;
            }
            for (int next = row[0] + 1; next < row.length; next++) {
                if (((owed & ~used) >>> next & 1) != 0) {
                    row[count] = next;
                    if (closes(creditors, row, count + 1, size, used | 1 << next)) {
                        return true;
                    }
                }
            }
            return false;
        }
    }

    /** The first of the smallest sets of seeds of kind 0 that tell of all told cells. */
    private static final class Cover {
        private static final int MOST = 3;
        private static final int SPAN = 1;
        // No cell that is farther on than this is near enough to a cell.
        private static final int FARTHEST_ON = Cells.SIDE + 1;

        private final int[] cells = new int[MOST];

        /** How many it takes, or NONE if too many. */
        private int find(long told) {
            for (int size = 0; size <= MOST; size++) {
                if (covers(told, cells, 0, size)) {
                    return size;
                }
            }
            return NONE;
        }

        /** Whether the rest can be told of by those from count on, each greater than the one ahead. */
        private static boolean covers(long rest, int[] row, int count, int size) {
            if (count >= size || count >= row.length) {
                return rest == 0;
            }
            if (rest == 0) {
                return false;
            }
            int end = Math.min(Cells.COUNT - 1, Cells.lowest(rest) + FARTHEST_ON);
            for (int cell = count == 0 ? 0 : row[count - 1] + 1; cell <= end; cell++) {
                long zone = Cells.zone(cell, SPAN);
                // One that tells of nothing new is in no smallest set.
                if ((zone & rest) != 0) {
                    row[count] = cell;
                    if (covers(rest & ~zone, row, count + 1, size)) {
                        return true;
                    }
                }
            }
            return false;
        }
    }

    /** Bytes that were fed. */
    private static final class Tape {
        private static final int MOST = 250;

        private final int[] letters = new int[MOST];
        private int size = 0;

        private boolean isFull() {
            return size >= MOST;
        }

        private void add(int letter) {
            letters[size] = letter;
            size++;
        }

        private int at(int place) {
            return place >= 0 && place < size ? letters[place] : NONE;
        }
    }

    /** Reads a garden from its tape; a token at fault is always the one read last. */
    private static final class Reader {
        private static final int FAULT_ZERO = -20;
        private static final int MOST_DIGITS = 3;

        private static final int END = 0;
        private static final int WORD = 1;
        private static final int NUMBER = 2;
        private static final int SIGN = 3;
        private static final int ODD = 4;

        private final Tape tape = new Tape();
        private int token = END;
        private int start = 0;
        private int after = 0;

        /** How many statements came to a garden, or FAULT_ZERO less the fault (the garden is spoilt then). */
        private int readAll(Garden into) {
            after = 0;
            for (int count = 1; count <= Tape.MOST; count++) {
                if (!readStatement(into)) {
                    return FAULT_ZERO - start;
                }
                advance();
                if (token == END) {
                    return count;
                }
                if (token != SIGN) {
                    return FAULT_ZERO - start;
                }
            }
            return FAULT_ZERO - start;
        }

        private void advance() {
            start = after;
            while (start < tape.size && tape.at(start) == ' ') {
                start++;
            }
            token = tokenOf(tape.at(start));
            after = token == END ? start : start + 1;
            if (token == WORD || token == NUMBER) {
                while (after < tape.size && tokenOf(tape.at(after)) == token) {
                    after++;
                }
            }
        }

        private static int tokenOf(int letter) {
            if (letter == NONE) {
                return END;
            }
            if (letter >= 'a' && letter <= 'z') {
                return WORD;
            }
            if (letter >= '0' && letter <= '9') {
                return NUMBER;
            }
            return letter == ';' ? SIGN : ODD;
        }

        private boolean readStatement(Garden into) {
            advance();
            if (isWord("wall")) {
                return readWall(into);
            }
            if (isWord("open")) {
                return readOpen(into);
            }
            if (isWord("person")) {
                return readPerson(into);
            }
            if (isWord("owes")) {
                return readOwes(into);
            }
            if (isWord("seed")) {
                return readSeed(into);
            }
            return isWord("go") && readGo(into);
        }

        private boolean isWord(String word) {
            if (token != WORD || after - start != word.length()) {
                return false;
            }
            for (int i = 0; i < word.length(); i++) {
                if (tape.at(start + i) != word.charAt(i)) {
                    return false;
                }
            }
            return true;
        }

        /** The next token as a number below a bound, or NONE if it is no such one. */
        private int readNumber(int below) {
            advance();
            if (token != NUMBER || after - start > MOST_DIGITS) {
                return NONE;
            }
            int value = 0;
            for (int i = start; i < after; i++) {
                value = 10 * value + tape.at(i) - '0';
            }
            return value < below ? value : NONE;
        }

        private boolean readWall(Garden into) {
            int cell = readNumber(Cells.COUNT);
            if (cell == NONE || into.isStoodOn(cell)) {
                return false;
            }
            into.putWall(cell, true);
            return true;
        }

        private boolean readOpen(Garden into) {
            int cell = readNumber(Cells.COUNT);
            if (cell == NONE) {
                return false;
            }
            into.putWall(cell, false);
            return true;
        }

        private int readFloor(Garden into) {
            int cell = readNumber(Cells.COUNT);
            return cell != NONE && into.hasWall(cell) ? NONE : cell;
        }

        private boolean readPerson(Garden into) {
            // Without room the word itself can't stand there, so nothing behind it is read.
            if (into.people >= Garden.MOST_PEOPLE) {
                return false;
            }
            int cell = readFloor(into);
            if (cell == NONE) {
                return false;
            }
            into.addPerson(cell);
            return true;
        }

        private boolean readOwes(Garden into) {
            int x = readNumber(into.people);
            if (x == NONE) {
                return false;
            }
            int y = readNumber(into.people);
            if (y == NONE || y == x) {
                return false;
            }
            int coins = readNumber(Debts.MOST_COINS + 1);
            if (coins == NONE) {
                return false;
            }
            into.debts.put(x, y, coins);
            return true;
        }

        private boolean readSeed(Garden into) {
            if (into.sown >= Garden.MOST_SEEDS) {
                return false;
            }
            int kind = readNumber(Seed.KINDS);
            if (kind == NONE) {
                return false;
            }
            int a = readNumber(Seed.MOST_A + 1);
            if (a == NONE) {
                return false;
            }
            int cell = readNumber(Cells.COUNT);
            if (cell == NONE) {
                return false;
            }
            int creditor = readNumber(into.people);
            if (creditor == NONE) {
                return false;
            }
            into.addSeed(kind, a, cell, creditor);
            return true;
        }

        private boolean readGo(Garden into) {
            int x = readNumber(into.people);
            if (x == NONE) {
                return false;
            }
            int cell = readFloor(into);
            if (cell == NONE) {
                return false;
            }
            into.places[x] = cell;
            return true;
        }
    }
}
