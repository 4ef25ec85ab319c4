import java.lang.reflect.Method;
import java.util.ArrayList;
import java.util.List;
import java.util.Random;

/** Runs of drawn calls on the class and on Naive: every answer must be the same. */
final class NaiveTest {
    private static final int RUNS = 800;
    private static final int CALLS = 512;

    // Behind each name the sorts of its arguments: s shelf, o sort, n length, i index, v value, d seed, k kind,
    // b whether, c cell, a a, p person, x person (often another one), m coins, l letter, w what, r way, y days.
    private static final String[] FACE = {
        "row:son", "set:siv", "copy:ssiin", "element:si", "holds:s", "show:sd", "says:sk", "wall:cb", "person:c",
        "sow:kacp", "owes:pxm", "feed:l", "wipe:", "garden:", "seedOf:dw", "personOf:pw", "debt:px", "isWall:c", "up:p",
        "by:d", "quiet:pc", "way:pci", "bar:pc", "reach:p", "loud:p", "together:c", "calm:", "idle:", "worst:",
        "chain:px", "poorest:", "due:px", "bare:", "net:p", "mutual:", "ring:i", "guess:pxr", "tells:sni", "judge:psn",
        "seen:psn", "walk:psn", "step:pr", "pay:pxm", "strike:", "days:y", "weed:", "seed:v", "image:", "back:", "status:w",
    };

    private final Random random;
    private final boolean wild;
    private final NextToItsDebtor x = new NextToItsDebtor();
    private final Naive n = new Naive();
    private final List<String> run = new ArrayList<>();

    private NaiveTest(int number) {
        random = new Random(number);
        wild = number % 10 == 9;
    }

    public static void main(String[] args) throws Exception {
        checkFace();
        long answers = 0;
        for (int number = 0; number < RUNS; number++) {
            NaiveTest t = new NaiveTest(number);
            if (!t.goes()) {
                System.out.println("run " + number + ":");
                t.run.forEach(System.out::println);
                System.exit(1);
            }
            answers += t.run.size();
        }
        System.out.println("NaiveTest: " + answers + " answers of " + RUNS + " runs, 0 not as due");
    }

    /** No method of the face is left out. */
    private static void checkFace() {
        int methods = 0;
        for (Method m : NextToItsDebtor.class.getDeclaredMethods()) {
            methods += java.lang.reflect.Modifier.isPublic(m.getModifiers()) ? 1 : 0;
        }
        if (methods != FACE.length) {
            System.out.println(methods + " public methods, " + FACE.length + " are drawn");
            System.exit(1);
        }
    }

    private boolean goes() throws Exception {
        if (random.nextInt(8) > 0 && !populates()) {
            return false;
        }
        while (run.size() < CALLS) {
            int kind = random.nextInt(100);
            boolean same;
            if (kind < 2 && run.size() < CALLS - 100) {
                same = drawnGarden();
            } else if (kind < 4 && run.size() < CALLS - 50) {
                same = drawnWalk();
            } else if (kind < 6 && run.size() < CALLS - 50) {
                same = drawnTold();
            } else {
                same = call(FACE[random.nextInt(FACE.length)]);
            }
            if (!same) {
                return false;
            }
        }
        return true;
    }

    /** A garden that is full enough for something to come of it. */
    private boolean populates() throws Exception {
        int[] counts = {2 + random.nextInt(7), random.nextInt(17), random.nextInt(30), random.nextInt(20)};
        String[] entries = {"person:c", "sow:kacp", "owes:pxm", "wall:cb"};
        boolean same = true;
        for (int e = 0; e < entries.length; e++) {
            for (int i = 0; i < counts[e]; i++) {
                same &= call(entries[e]);
            }
        }
        return same;
    }

    /** A row of cells not far from one another, and what tells of them. */
    private boolean drawnTold() throws Exception {
        int count = random.nextInt(11);
        Class<?>[] three = {int.class, int.class, int.class};
        boolean same = same("row", three, 2, random.nextInt(4), count);
        int rows = 1 + random.nextInt(8);
        int columns = 1 + random.nextInt(8);
        for (int i = 0; i < count; i++) {
            long cell = 8 * random.nextInt(rows) + random.nextInt(columns);
            same &= same("set", new Class<?>[] {int.class, int.class, long.class}, 2, i, cell);
        }
        for (int i = -1; i < 4; i++) {
            same &= same("tells", three, 2, count, i);
        }
        return same;
    }

    private boolean call(String entry) throws Exception {
        String name = entry.substring(0, entry.indexOf(':'));
        String sorts = entry.substring(entry.indexOf(':') + 1);
        // Too many of these empty a garden before anything comes of it.
        if ((name.equals("weed") || name.equals("back") || name.equals("strike") || name.equals("show")) && random.nextInt(3) > 0) {
            return true;
        }
        Class<?>[] types = new Class<?>[sorts.length()];
        Object[] values = new Object[sorts.length()];
        for (int i = 0; i < types.length; i++) {
            char sort = sorts.charAt(i);
            types[i] = sort == 'b' ? boolean.class : sort == 'v' && name.equals("set") ? long.class : int.class;
            long v = draw(sort);
            values[i] = sort == 'b' ? (Object) (v != 0) : types[i] == long.class ? (Object) v : (Object) (int) v;
        }
        return same(name, types, values);
    }

    private boolean same(String name, Class<?>[] types, Object... values) throws Exception {
        Object got = NextToItsDebtor.class.getMethod(name, types).invoke(x, values);
        Object due = Naive.class.getMethod(name, types).invoke(n, values);
        run.add(name + List.of(values) + " answered " + got + ", due is " + due);
        return got.equals(due);
    }

    private long draw(char sort) {
        int kind = random.nextInt(wild ? 4 : 60);
        if (kind == 0) {
            int[] odd = {Integer.MIN_VALUE, Integer.MAX_VALUE, -2, -1, 64, 41, 1000, 256, 8, 16, 100, -1000002};
            return odd[random.nextInt(odd.length)];
        }
        int people = Math.max(1, n.g.people.size());
        switch (sort) {
            case 's': return random.nextInt(kind == 1 ? 8 : 3);
            case 'o': return random.nextInt(5);
            case 'n': return random.nextInt(random.nextBoolean() ? 5 : 11);
            case 'i': return random.nextInt(random.nextBoolean() ? 4 : 10) - 1;
            case 'v': return random.nextInt(4) == 0 ? random.nextLong() : random.nextInt(64);
            case 'd': return random.nextInt(Math.max(1, n.g.plants.size()) + 1) - (kind == 1 ? 1 : 0);
            case 'k': return random.nextInt(6);
            case 'b': return random.nextInt(2);
            case 'c': return random.nextInt(64);
            case 'a': return random.nextInt(10);
            case 'p': return random.nextInt(people);
            case 'x': return random.nextInt(people);
            case 'm': return random.nextInt(3) == 0 ? random.nextInt(1000) : random.nextInt(12);
            case 'l': return " ;0123456789walopenrsdgx".charAt(random.nextInt(24));
            case 'w': return random.nextInt(18) - 1;
            case 'r': return random.nextInt(4);
            default: return random.nextInt(20);
        }
    }

    /** A garden's text, in some of its bytes perhaps other than it should be. */
    private boolean drawnGarden() throws Exception {
        StringBuilder text = new StringBuilder();
        for (int i = 1 + random.nextInt(4); i > 0; i--) {
            String[] words = {"wall:c", "open:c", "person:c", "owes:pxm", "seed:kacp", "go:pc", "owes:pxm", "seed:kacp"};
            String entry = words[random.nextInt(words.length)];
            text.append(entry, 0, entry.indexOf(':'));
            for (char sort : entry.substring(entry.indexOf(':') + 1).toCharArray()) {
                text.append(' ').append(draw(sort));
            }
            text.append(i > 1 ? random.nextInt(9) == 0 ? " ; " : ";" : "");
        }
        if (random.nextInt(3) == 0) {
            text.setCharAt(random.nextInt(text.length()), (char) random.nextInt(random.nextBoolean() ? 256 : 128));
        } else if (random.nextInt(4) == 0) {
            text.setLength(random.nextInt(text.length()));
        }
        if (random.nextInt(3) > 0 && !same("wipe", new Class<?>[0])) {
            return false;
        }
        for (int i = 0; i < text.length(); i++) {
            if (!same("feed", new Class<?>[] {int.class}, (int) text.charAt(i))) {
                return false;
            }
        }
        return same("garden", new Class<?>[0]);
    }

    /** A row of cells, each mostly beside the one ahead, and what becomes of it. */
    private boolean drawnWalk() throws Exception {
        if (n.g.people.isEmpty()) {
            return true;
        }
        int person = (int) draw('x');
        if (person < 0 || person >= n.g.people.size()) {
            return true;
        }
        int count = random.nextInt(12);
        Class<?>[] three = {int.class, int.class, int.class};
        boolean same = same("row", three, 1, 2, count);
        int cell = n.g.people.get(person);
        for (int i = 0; i < count; i++) {
            int to = n.g.beside(cell, random.nextInt(4));
            cell = to == -1 ? cell : random.nextInt(30) == 0 ? to + 1 : to;
            same &= same("set", new Class<?>[] {int.class, int.class, long.class}, 1, i, (long) cell);
        }
        for (String name : new String[] {"judge", "seen", "walk"}) {
            same &= same(name, three, person, 1, count);
        }
        return same & same("tells", three, 1, Math.min(count, 10), random.nextInt(4) - 1);
    }
}
