import java.util.ArrayList;
import java.util.Arrays;
import java.util.List;

/** The document told a second time, by plain lists and by trying: slow, and written apart from the class. */
final class Naive {
    static final int NONE = -1;
    static final int BAD = -2;
    static final int OTHER = -3;
    static final int NOTHING = -4;
    static final int STUCK = -5;
    static final int FULL = -6;

    record Plant(int kind, int a, int cell, int creditor) {
        int reach() {
            return kind == 2 || kind == 4 ? 2 : kind == 0 || kind == 5 ? 1 : 0;
        }

        int takes() {
            return kind == 3 ? Math.max(1, 10 * a) : kind == 5 ? Math.max(1, a) : 1;
        }

        boolean is(int wanted) {
            return wanted == kind || wanted == 0 || (wanted == 1 && kind == 3) || (wanted == 2 && kind == 4);
        }
    }

    /** What an image keeps. */
    static final class State {
        boolean[] walls = new boolean[64];
        List<Integer> people = new ArrayList<>();
        int[][] debts = new int[8][8];
        List<Plant> plants = new ArrayList<>();
        int seedness = 1;

        State twin() {
            State t = new State();
            t.walls = walls.clone();
            t.people = new ArrayList<>(people);
            for (int i = 0; i < 8; i++) {
                t.debts[i] = debts[i].clone();
            }
            t.plants = new ArrayList<>(plants);
            t.seedness = seedness;
            return t;
        }

        int total(int person) {
            return Arrays.stream(debts[person]).sum();
        }

        boolean enough(Plant s, int person) {
            return s.kind == 4 ? total(person) > 0 : debts[person][s.creditor] >= s.takes();
        }

        boolean upByAt(Plant s, int person, int cell) {
            return far(s.cell, cell) <= s.reach() && enough(s, person);
        }

        boolean upBy(Plant s, int person) {
            return upByAt(s, person, people.get(person));
        }

        boolean isUp(Plant s) {
            for (int p = 0; p < people.size(); p++) {
                if (upBy(s, p)) {
                    return true;
                }
            }
            return false;
        }

        boolean quiet(int person, int cell) {
            return !walls[cell] && plants.stream().noneMatch(s -> upByAt(s, person, cell));
        }

        /** The cells of the first of the shortest ways to each cell. */
        List<List<Integer>> ways(int person) {
            List<List<Integer>> best = new ArrayList<>();
            for (int c = 0; c < 64; c++) {
                best.add(null);
            }
            best.set(people.get(person), new ArrayList<>());
            for (boolean better = true; better;) {
                better = false;
                for (int from = 0; from < 64; from++) {
                    for (int to = 0; to < 64 && best.get(from) != null; to++) {
                        if (Math.abs(from / 8 - to / 8) + Math.abs(from % 8 - to % 8) == 1 && quiet(person, to)) {
                            List<Integer> way = new ArrayList<>(best.get(from));
                            way.add(to);
                            if (isAhead(way, best.get(to))) {
                                best.set(to, way);
                                better = true;
                            }
                        }
                    }
                }
            }
            return best;
        }

        static boolean isAhead(List<Integer> a, List<Integer> b) {
            if (b == null || a.size() != b.size()) {
                return b == null || a.size() < b.size();
            }
            for (int i = 0; i < a.size(); i++) {
                if (!a.get(i).equals(b.get(i))) {
                    return a.get(i) < b.get(i);
                }
            }
            return false;
        }

        int net(int p) {
            int sum = 0;
            for (int q = 0; q < 8; q++) {
                sum += debts[q][p] - debts[p][q];
            }
            return sum;
        }

        int due(int x, int y) {
            for (int paid = 0; ; paid++) {
                State t = twin();
                t.debts[x][y] -= paid;
                if (t.plants.stream().noneMatch(s -> s.creditor == y && s.kind != 4 && t.upBy(s, x))) {
                    return paid;
                }
            }
        }

        int draw(int n) {
            seedness = seedness * 1103515245 + 12345;
            return (int) ((Integer.toUnsignedLong(seedness) / 65536) % n);
        }

        int beside(int cell, int way) {
            int row = cell / 8 + (way == 0 ? -1 : way == 1 ? 1 : 0);
            int column = cell % 8 + (way == 2 ? -1 : way == 3 ? 1 : 0);
            return row < 0 || row > 7 || column < 0 || column > 7 || walls[8 * row + column] ? NONE : 8 * row + column;
        }
    }

    State g = new State();
    State kept = null;
    final int[] sort = new int[8];
    final long[][] rows = new long[8][];
    final int[] plantOn = new int[8];
    final List<Integer> tape = new ArrayList<>();
    final int[] refused = new int[5];

    Naive() {
        Arrays.fill(plantOn, NONE);
    }

    static int far(int a, int b) {
        return Math.max(Math.abs(a / 8 - b / 8), Math.abs(a % 8 - b % 8));
    }

    int no(int code) {
        refused[-2 - code]++;
        return code;
    }

    boolean shelf(int s) {
        return 0 <= s && s <= 7;
    }

    boolean cell(int c) {
        return 0 <= c && c <= 63;
    }

    boolean one(int p) {
        return 0 <= p && p < g.people.size();
    }

    boolean plant(int i) {
        return 0 <= i && i < g.plants.size();
    }

    public int row(int s, int kind, int n) {
        if (!shelf(s) || kind < 0 || kind > 4 || n < 0 || n > 40) {
            return no(BAD);
        }
        sort[s] = kind;
        rows[s] = new long[n];
        plantOn[s] = NONE;
        return 1;
    }

    public int set(int s, int i, long v) {
        if (!shelf(s)) {
            return no(BAD);
        }
        if (plantOn[s] != NONE) {
            return no(OTHER);
        }
        if (rows[s] == null) {
            return no(NOTHING);
        }
        if (i < 0 || i >= rows[s].length) {
            return no(BAD);
        }
        long[] as = {(byte) v, (short) v, (int) v, v, v == 0 ? 0 : 1};
        rows[s][i] = as[sort[s]];
        return 1;
    }

    public int copy(int p, int q, int i, int j, int n) {
        if (!shelf(p) || !shelf(q)) {
            return no(BAD);
        }
        boolean both = holds(p) != NONE && holds(q) != NONE;
        if (plantOn[p] != NONE || plantOn[q] != NONE || (both && sort[p] != sort[q])) {
            return no(OTHER);
        }
        if (!both) {
            return no(NOTHING);
        }
        if (i < 0 || j < 0 || n < 0 || (long) i + n > rows[p].length || (long) j + n > rows[q].length) {
            return no(BAD);
        }
        long[] were = rows[p].clone();
        for (int k = 0; k < n; k++) {
            rows[q][j + k] = were[i + k];
        }
        return n;
    }

    public long element(int s, int i) {
        return shelf(s) && rows[s] != null && i >= 0 && i < rows[s].length ? rows[s][i] : 0;
    }

    public int holds(int s) {
        if (!shelf(s)) {
            return NONE;
        }
        return plantOn[s] != NONE ? 10 + plantOn[s] : rows[s] != null ? sort[s] : NONE;
    }

    public int show(int s, int seed) {
        if (!shelf(s) || (seed != NONE && !plant(seed))) {
            return no(BAD);
        }
        rows[s] = null;
        plantOn[s] = seed;
        return 1;
    }

    public int says(int s, int kind) {
        if (!shelf(s) || kind < 0 || kind > 5) {
            return no(BAD);
        }
        if (holds(s) == NONE) {
            return no(NOTHING);
        }
        if (plantOn[s] == NONE || !g.plants.get(plantOn[s]).is(kind)) {
            return no(OTHER);
        }
        Plant it = g.plants.get(plantOn[s]);
        int[] said = {it.creditor, it.reach(), it.reach(), it.takes(), status(5), it.takes()};
        return said[kind];
    }

    public int wall(int cell, boolean is) {
        if (!cell(cell)) {
            return no(BAD);
        }
        if (is && g.people.contains(cell)) {
            return no(STUCK);
        }
        boolean was = g.walls[cell];
        g.walls[cell] = is;
        return was == is ? 0 : 1;
    }

    public int person(int cell) {
        if (!cell(cell) || g.walls[cell]) {
            return no(BAD);
        }
        if (g.people.size() == 8) {
            return no(FULL);
        }
        g.people.add(cell);
        return g.people.size() - 1;
    }

    public int sow(int kind, int a, int cell, int creditor) {
        if (kind < 0 || kind > 5 || a < 0 || a > 9 || !cell(cell) || !one(creditor)) {
            return no(BAD);
        }
        if (g.plants.size() == 16) {
            return no(FULL);
        }
        g.plants.add(new Plant(kind, a, cell, creditor));
        return g.plants.size() - 1;
    }

    public int owes(int x, int y, int coins) {
        if (!one(x) || !one(y) || x == y || coins < 0 || coins > 999) {
            return no(BAD);
        }
        int ahead = g.debts[x][y];
        g.debts[x][y] = coins;
        return ahead;
    }

    public int feed(int letter) {
        if (letter < 0 || letter > 255) {
            return no(BAD);
        }
        if (tape.size() == 250) {
            return no(FULL);
        }
        tape.add(letter);
        return tape.size();
    }

    public int wipe() {
        int ahead = tape.size();
        tape.clear();
        return ahead;
    }

    /** First the tape is cut into tokens, then the tokens are judged one by one. */
    public int garden() {
        List<String> tokens = new ArrayList<>();
        List<Integer> places = new ArrayList<>();
        StringBuilder text = new StringBuilder();
        for (int letter : tape) {
            text.append((char) letter);
        }
        var m = java.util.regex.Pattern.compile("[a-z]+|[0-9]+|[^ ]", java.util.regex.Pattern.DOTALL).matcher(text);
        while (m.find()) {
            tokens.add(m.group());
            places.add(m.start());
        }
        places.add(tape.size());
        tape.clear();
        State t = g.twin();
        int at = 0;
        int count = 0;
        while (true) {
            int used = statement(t, tokens.subList(at, tokens.size()));
            if (used <= 0) {
                no(BAD);
                return -20 - places.get(at - used);
            }
            at += used;
            count++;
            if (at == tokens.size()) {
                g = t;
                return count;
            }
            if (!tokens.get(at).equals(";")) {
                no(BAD);
                return -20 - places.get(at);
            }
            at++;
        }
    }

    /** How many tokens it took, or less the token that is at fault. */
    static int statement(State t, List<String> tokens) {
        if (tokens.isEmpty()) {
            return 0;
        }
        String word = tokens.get(0);
        String shape = switch (word) {
            case "wall" -> "W";
            case "open" -> "C";
            case "person" -> t.people.size() == 8 ? "" : "F";
            case "owes" -> "XYN";
            case "seed" -> t.plants.size() == 16 ? "" : "KACX";
            case "go" -> "XF";
            default -> "";
        };
        int[] v = new int[4];
        for (int i = 0; i < shape.length(); i++) {
            if (tokens.size() <= i + 1 || !tokens.get(i + 1).matches("[0-9]{1,3}")) {
                return -i - 1;
            }
            v[i] = Integer.parseInt(tokens.get(i + 1));
            boolean may = switch (shape.charAt(i)) {
                case 'W' -> v[i] < 64 && !t.people.contains(v[i]);
                case 'C' -> v[i] < 64;
                case 'F' -> v[i] < 64 && !t.walls[v[i]];
                case 'X' -> v[i] < t.people.size();
                case 'Y' -> v[i] < t.people.size() && v[i] != v[0];
                case 'K' -> v[i] < 6;
                case 'A' -> v[i] < 10;
                default -> true;
            };
            if (!may) {
                return -i - 1;
            }
        }
        if (shape.isEmpty()) {
            return 0;
        }
        switch (word) {
            case "wall", "open" -> t.walls[v[0]] = word.equals("wall");
            case "person" -> t.people.add(v[0]);
            case "owes" -> t.debts[v[0]][v[1]] = v[2];
            case "seed" -> t.plants.add(new Plant(v[0], v[1], v[2], v[3]));
            default -> t.people.set(v[0], v[1]);
        }
        return shape.length() + 1;
    }

    public int seedOf(int seed, int what) {
        if (!plant(seed) || what < 0 || what > 5) {
            return no(BAD);
        }
        Plant it = g.plants.get(seed);
        int[] all = {it.kind, it.a, it.cell, it.creditor, it.reach(), g.isUp(it) ? 1 : 0};
        return all[what];
    }

    public int personOf(int person, int what) {
        if (!one(person) || what < 0 || what > 4) {
            return no(BAD);
        }
        int owed = 0;
        for (int q = 0; q < 8; q++) {
            owed += g.debts[q][person];
        }
        int his = (int) g.plants.stream().filter(s -> s.creditor == person).count();
        int up = (int) g.plants.stream().filter(s -> g.upBy(s, person)).count();
        int[] all = {g.people.get(person), g.total(person), owed, his, up};
        return all[what];
    }

    public int debt(int x, int y) {
        return one(x) && one(y) ? g.debts[x][y] : no(BAD);
    }

    public int isWall(int cell) {
        return !cell(cell) ? no(BAD) : g.walls[cell] ? 1 : 0;
    }

    public int up(int person) {
        if (person != NONE && !one(person)) {
            return no(BAD);
        }
        int bits = 0;
        for (int i = 0; i < g.plants.size(); i++) {
            Plant s = g.plants.get(i);
            bits |= (person == NONE ? g.isUp(s) : g.upBy(s, person)) ? 1 << i : 0;
        }
        return bits;
    }

    public int by(int seed) {
        if (!plant(seed)) {
            return no(BAD);
        }
        int bits = 0;
        for (int p = 0; p < g.people.size(); p++) {
            bits |= g.upBy(g.plants.get(seed), p) ? 1 << p : 0;
        }
        return bits;
    }

    public int quiet(int person, int cell) {
        return !one(person) || !cell(cell) ? no(BAD) : g.quiet(person, cell) ? 1 : 0;
    }

    public int way(int person, int cell, int i) {
        if (!one(person) || !cell(cell) || i < NONE) {
            return no(BAD);
        }
        List<Integer> way = g.ways(person).get(cell);
        if (way == null) {
            return NONE;
        }
        return i == NONE ? way.size() : i < way.size() ? way.get(i) : no(STUCK);
    }

    public int bar(int person, int cell) {
        if (!one(person) || !cell(cell)) {
            return no(BAD);
        }
        if (g.ways(person).get(cell) != null) {
            return NONE;
        }
        for (int p = 0; p < g.people.size(); p++) {
            int who = p;
            State t = g.twin();
            t.plants.removeIf(s -> s.creditor == who);
            if (t.ways(person).get(cell) != null) {
                return p;
            }
        }
        return NONE;
    }

    public int reach(int person) {
        return !one(person) ? no(BAD) : (int) g.ways(person).stream().filter(w -> w != null).count();
    }

    public int loud(int person) {
        if (!one(person)) {
            return no(BAD);
        }
        int count = 0;
        for (int c = 0; c < 64; c++) {
            count += !g.walls[c] && !g.quiet(person, c) ? 1 : 0;
        }
        return count;
    }

    public int together(int cell) {
        if (!cell(cell)) {
            return no(BAD);
        }
        int bits = 0;
        for (int p = 0; p < g.people.size(); p++) {
            bits |= g.ways(p).get(cell) != null ? 1 << p : 0;
        }
        return bits;
    }

    public int calm() {
        int count = 0;
        for (int c = 0; c < 64; c++) {
            boolean is = !g.walls[c];
            for (int p = 0; p < g.people.size(); p++) {
                is &= g.quiet(p, c);
            }
            count += is ? 1 : 0;
        }
        return count;
    }

    public int idle() {
        int bits = 0;
        for (int i = 0; i < g.plants.size(); i++) {
            boolean is = true;
            for (int p = 0; p < g.people.size(); p++) {
                is &= !g.enough(g.plants.get(i), p);
            }
            bits |= is ? 1 << i : 0;
        }
        return bits;
    }

    public int worst() {
        if (g.people.isEmpty()) {
            return no(STUCK);
        }
        int found = 0;
        for (int p = 0; p < g.people.size(); p++) {
            found = personOf(p, 4) > personOf(found, 4) ? p : found;
        }
        return found;
    }

    public int chain(int x, int y) {
        if (!one(x) || !one(y) || x == y) {
            return no(BAD);
        }
        int[][] steps = new int[8][8];
        for (int a = 0; a < 8; a++) {
            for (int b = 0; b < 8; b++) {
                steps[a][b] = g.debts[a][b] > 0 ? 1 : 1000;
            }
        }
        for (int k = 0; k < 8; k++) {
            for (int a = 0; a < 8; a++) {
                for (int b = 0; b < 8; b++) {
                    steps[a][b] = Math.min(steps[a][b], steps[a][k] + steps[k][b]);
                }
            }
        }
        return steps[x][y] >= 1000 ? NONE : steps[x][y];
    }

    public int poorest() {
        if (g.people.isEmpty()) {
            return no(STUCK);
        }
        int found = 0;
        for (int p = 0; p < g.people.size(); p++) {
            found = g.net(p) < g.net(found) ? p : found;
        }
        return found;
    }

    public int due(int x, int y) {
        return !one(x) || !one(y) || x == y ? no(BAD) : g.due(x, y);
    }

    public int bare() {
        State t = g.twin();
        int all = 0;
        for (int x = 0; x < g.people.size(); x++) {
            for (int y = 0; y < g.people.size(); y++) {
                if (x != y) {
                    all += g.due(x, y);
                    t.debts[x][y] -= g.due(x, y);
                }
            }
        }
        return t.plants.stream().anyMatch(t::isUp) ? NONE : all;
    }

    public int net(int person) {
        if (!one(person)) {
            no(BAD);
            return -1000002;
        }
        return g.net(person);
    }

    public int mutual() {
        int sum = 0;
        for (int x = 0; x < 8; x++) {
            for (int y = 0; y < x; y++) {
                sum += Math.min(g.debts[x][y], g.debts[y][x]);
            }
        }
        return sum;
    }

    public int ring(int i) {
        if (i < NONE) {
            return no(BAD);
        }
        for (int size = 3; size <= g.people.size(); size++) {
            List<Integer> found = rows(size, new ArrayList<>());
            if (found != null) {
                return i == NONE ? size : i < size ? found.get(i) : no(STUCK);
            }
        }
        return NONE;
    }

    /** The first row of so many people that goes on from a beginning and is a ring with its least ahead. */
    private List<Integer> rows(int size, List<Integer> row) {
        if (row.size() == size) {
            for (int k = 0; k < size; k++) {
                if (g.debts[row.get(k)][row.get((k + 1) % size)] == 0 || row.get(k) < row.get(0)) {
                    return null;
                }
            }
            return row;
        }
        for (int p = 0; p < g.people.size(); p++) {
            if (!row.contains(p)) {
                List<Integer> longer = new ArrayList<>(row);
                longer.add(p);
                List<Integer> found = rows(size, longer);
                if (found != null) {
                    return found;
                }
            }
        }
        return null;
    }

    public int guess(int x, int y, int what) {
        if (!one(x) || !one(y) || x == y || what < 0 || what > 1) {
            return no(BAD);
        }
        boolean may = true;
        boolean sure = false;
        for (Plant s : g.plants) {
            if (s.creditor == y && s.kind <= 2 && far(s.cell, g.people.get(x)) <= s.reach()) {
                boolean alone = true;
                for (int p = 0; p < g.people.size(); p++) {
                    alone &= p == x || p == y || far(s.cell, g.people.get(p)) > s.reach();
                }
                may &= g.isUp(s);
                sure |= g.isUp(s) && alone;
            }
        }
        return (what == 0 ? may : sure) ? 1 : 0;
    }

    public int tells(int s, int n, int i) {
        if (!shelf(s) || n < 0 || n > 10 || i < NONE) {
            return no(BAD);
        }
        int trouble = rowOf(s, n);
        if (trouble != 0) {
            return no(trouble);
        }
        for (int k = 0; k < n; k++) {
            if (rows[s][k] < 0 || rows[s][k] > 63) {
                return no(STUCK);
            }
        }
        long[] told = Arrays.copyOf(rows[s], n);
        int[] set = fewest(told);
        if (set == null || i == NONE) {
            return set == null ? NONE : set.length;
        }
        return i < set.length ? set[i] : no(STUCK);
    }

    private static int[] fewest(long[] told) {
        if (told.length == 0) {
            return new int[0];
        }
        for (int a = 0; a < 64; a++) {
            if (near(told, a, a, a)) {
                return new int[] {a};
            }
        }
        for (int a = 0; a < 64; a++) {
            for (int b = a + 1; b < 64; b++) {
                if (near(told, a, b, b)) {
                    return new int[] {a, b};
                }
            }
        }
        for (int a = 0; a < 64; a++) {
            for (int b = a + 1; b < 64; b++) {
                for (int c = b + 1; c < 64; c++) {
                    if (near(told, a, b, c)) {
                        return new int[] {a, b, c};
                    }
                }
            }
        }
        return null;
    }

    private static boolean near(long[] told, int a, int b, int c) {
        for (long t : told) {
            if (far((int) t, a) > 1 && far((int) t, b) > 1 && far((int) t, c) > 1) {
                return false;
            }
        }
        return true;
    }

    private int rowOf(int s, int n) {
        return plantOn[s] != NONE ? OTHER : rows[s] == null ? NOTHING : n > rows[s].length ? BAD : 0;
    }

    private int walkOf(int person, int s, int n, boolean right) {
        if (!shelf(s) || n < 0 || n > 40 || !one(person)) {
            return BAD;
        }
        int trouble = rowOf(s, n);
        return trouble != 0 ? trouble : right && wrong(person, s, n) != NONE ? STUCK : 0;
    }

    private int wrong(int person, int s, int n) {
        long ahead = g.people.get(person);
        for (int k = 0; k < n; k++) {
            long c = rows[s][k];
            if (c < 0 || c > 63 || g.walls[(int) c] || Math.abs(ahead / 8 - c / 8) + Math.abs(ahead % 8 - c % 8) != 1) {
                return k;
            }
            ahead = c;
        }
        return NONE;
    }

    public int judge(int person, int s, int n) {
        int trouble = walkOf(person, s, n, false);
        return trouble != 0 ? no(trouble) : wrong(person, s, n);
    }

    public int seen(int person, int s, int n) {
        int trouble = walkOf(person, s, n, true);
        if (trouble != 0) {
            return no(trouble);
        }
        for (int k = 0; k < n; k++) {
            int c = (int) rows[s][k];
            if (g.plants.stream().anyMatch(p -> g.upByAt(p, person, c))) {
                return k;
            }
        }
        return NONE;
    }

    public int walk(int person, int s, int n) {
        int trouble = walkOf(person, s, n, true);
        if (trouble != 0) {
            return no(trouble);
        }
        for (int k = 0; k < n; k++) {
            g.people.set(person, (int) rows[s][k]);
        }
        return g.people.get(person);
    }

    public int step(int person, int way) {
        if (!one(person) || way < 0 || way > 3) {
            return no(BAD);
        }
        int to = g.beside(g.people.get(person), way);
        if (to == NONE) {
            return no(STUCK);
        }
        g.people.set(person, to);
        return to;
    }

    public int pay(int x, int y, int coins) {
        if (!one(x) || !one(y) || x == y || coins < 1 || coins > 999) {
            return no(BAD);
        }
        if (g.debts[x][y] < coins) {
            return no(STUCK);
        }
        g.debts[x][y] -= coins;
        return g.debts[x][y];
    }

    public int strike() {
        int all = mutual();
        for (int x = 0; x < 8; x++) {
            for (int y = 0; y < x; y++) {
                int lesser = Math.min(g.debts[x][y], g.debts[y][x]);
                g.debts[x][y] -= lesser;
                g.debts[y][x] -= lesser;
            }
        }
        return all;
    }

    public int days(int n) {
        if (n < 1 || n > 99) {
            return no(BAD);
        }
        if (g.people.isEmpty()) {
            return no(STUCK);
        }
        int all = 0;
        for (int k = 0; k < n; k++) {
            int who = g.draw(g.people.size());
            int to = g.beside(g.people.get(who), g.draw(4));
            if (to != NONE) {
                g.people.set(who, to);
            }
            all += status(4);
        }
        return all;
    }

    private void relink() {
        for (int s = 0; s < 8; s++) {
            plantOn[s] = plant(plantOn[s]) ? plantOn[s] : NONE;
        }
    }

    public int weed() {
        if (g.plants.isEmpty()) {
            return no(STUCK);
        }
        g.plants.remove(g.plants.size() - 1);
        relink();
        return g.plants.size();
    }

    public int seed(int v) {
        int ahead = g.seedness;
        g.seedness = v;
        return ahead;
    }

    public int image() {
        kept = g.twin();
        return 1;
    }

    public int back() {
        if (kept == null) {
            return no(STUCK);
        }
        g = kept.twin();
        relink();
        return 1;
    }

    public int status(int what) {
        int walls = 0;
        for (boolean w : g.walls) {
            walls += w ? 1 : 0;
        }
        int debts = 0;
        int debtors = 0;
        for (int p = 0; p < 8; p++) {
            debts += g.total(p);
            debtors += g.total(p) > 0 ? 1 : 0;
        }
        int shelves = 0;
        for (int s = 0; s < 8; s++) {
            shelves += holds(s) != NONE ? 1 : 0;
        }
        int up = (int) g.plants.stream().filter(g::isUp).count();
        int[] all = {g.people.size(), g.plants.size(), walls, debts, up, debtors, tape.size(), g.seedness, shelves, NONE, NONE, NONE,
            refused[0], refused[1], refused[2], refused[3], refused[4]};
        return what >= 0 && what < all.length ? all[what] : NONE;
    }
}
