/** Promises 1 to 8: a new object, and its shelves. */
final class ShelfPromisesTest {
    private static final int NONE = Probe.NONE;
    private static final int BAD = Probe.BAD;
    private static final int OTHER = Probe.OTHER;
    private static final int NOTHING = Probe.NOTHING;

    public static void main(String[] args) {
        promise1();
        promise2();
        promise3();
        promise4();
        promise4OnOneRow();
        promise5();
        promise6();
        promise7();
        promise8();
        Probe.end("ShelfPromisesTest");
    }

    private static void promise1() {
        Probe p = new Probe("promise 1");
        p.is("NONE", NextToItsDebtor.NONE, -1);
        for (int what = 0; what <= 8; what++) {
            p.is("status(" + what + ")", p.x.status(what), what == 7 ? 1 : 0);
        }
        for (int s = 0; s < 8; s++) {
            p.is("holds", p.x.holds(s), NONE);
        }
        for (int cell = 0; cell < 64; cell++) {
            p.is("isWall", p.x.isWall(cell), 0);
        }
        p.is("wipe", p.x.wipe(), 0);
        p.no(BAD, "personOf", p.x.personOf(0, 0));
        p.no(BAD, "seedOf", p.x.seedOf(0, 0));
    }

    private static void promise2() {
        Probe p = new Probe("promise 2");
        for (int sort = 0; sort < 5; sort++) {
            p.is("row", p.x.row(sort, sort, 40), 1);
            p.is("holds", p.x.holds(sort), sort);
            p.is("element", p.x.element(sort, 39), 0);
        }
        p.is("row without elements", p.x.row(7, 0, 0), 1);
        p.is("holds", p.x.holds(7), 0);
        p.is("set", p.x.set(0, 0, 5), 1);
        p.is("set", p.x.set(0, 3, 5), 1);
        p.is("row again", p.x.row(0, 0, 4), 1);
        p.is("element of the new row", p.x.element(0, 0), 0);
        p.is("element of the new row", p.x.element(0, 3), 0);
        p.no(BAD, "row(-1, ..)", p.x.row(-1, 0, 1));
        p.no(BAD, "row(8, ..)", p.x.row(8, 0, 1));
        p.no(BAD, "sort -1", p.x.row(0, -1, 1));
        p.no(BAD, "sort 5", p.x.row(0, 5, 1));
        p.no(BAD, "-1 elements", p.x.row(0, 0, -1));
        p.no(BAD, "41 elements", p.x.row(0, 1, 41));
        p.is("holds what it held", p.x.holds(0), 0);
    }

    private static void promise3() {
        Probe p = Probe.of("promise 3", "person 0; seed 0 0 0 0");
        long v = 0x123456789abcdef0L;
        for (int sort = 0; sort < 5; sort++) {
            p.is("row", p.x.row(sort, sort, 2), 1);
            p.is("set", p.x.set(sort, 1, v), 1);
        }
        p.is("a byte", p.x.element(0, 1), (byte) v);
        p.is("a short", p.x.element(1, 1), (short) v);
        p.is("an int", p.x.element(2, 1), (int) v);
        p.is("a long", p.x.element(3, 1), v);
        p.is("a boolean", p.x.element(4, 1), 1);
        p.is("the one beside", p.x.element(3, 0), 0);
        p.is("set 0", p.x.set(4, 1, 0), 1);
        p.is("not so", p.x.element(4, 1), 0);
        p.is("set 256", p.x.set(4, 0, 256), 1);
        p.is("256 is so", p.x.element(4, 0), 1);
        p.is("set 128", p.x.set(0, 0, 128), 1);
        p.is("128 as a byte", p.x.element(0, 0), -128);
        p.no(BAD, "set(-1, ..)", p.x.set(-1, 0, 1));
        p.no(BAD, "set(8, ..)", p.x.set(8, 0, 1));
        p.is("show", p.x.show(6, 0), 1);
        p.no(OTHER, "a seed, and a bad place", p.x.set(6, -1, 1));
        p.no(NOTHING, "nothing, and a bad place", p.x.set(7, -1, 1));
        p.no(BAD, "place -1", p.x.set(0, -1, 1));
        p.no(BAD, "place 2", p.x.set(0, 2, 1));
    }

    private static void promise4() {
        Probe p = Probe.of("promise 4", "person 0; seed 0 0 0 0");
        p.row(0, 2, 1, 2, 3, 4, 5);
        p.row(1, 2, 9, 8, 7);
        p.is("copy", p.x.copy(0, 1, 3, 1, 2), 2);
        p.rowIs("copied to", 1, 9, 4, 5);
        p.rowIs("copied from", 0, 1, 2, 3, 4, 5);
        p.is("copy of nothing", p.x.copy(0, 1, 5, 3, 0), 0);
        p.no(BAD, "copy(-1, ..)", p.x.copy(-1, 1, 0, 0, 1));
        p.no(BAD, "copy(.., 8, ..)", p.x.copy(0, 8, 0, 0, 1));
        p.is("a row of another sort", p.x.row(2, 3, 5), 1);
        p.is("show", p.x.show(3, 0), 1);
        p.no(OTHER, "two sorts, and a bad place", p.x.copy(0, 2, -1, 0, 1));
        p.no(OTHER, "a seed to nothing", p.x.copy(3, 7, 0, 0, 1));
        p.no(OTHER, "nothing to a seed", p.x.copy(7, 3, 0, 0, 1));
        p.no(OTHER, "a seed to a seed", p.x.copy(3, 3, 0, 0, 1));
        p.no(OTHER, "a row to a seed", p.x.copy(0, 3, 0, 0, 1));
        p.no(NOTHING, "a row to nothing, and a bad place", p.x.copy(0, 7, -1, 0, 1));
        p.no(NOTHING, "nothing to a row", p.x.copy(7, 0, 0, 0, 1));
        p.no(BAD, "from -1 on", p.x.copy(0, 1, -1, 0, 1));
        p.no(BAD, "to -1 on", p.x.copy(0, 1, 0, -1, 1));
        p.no(BAD, "-1 elements", p.x.copy(0, 1, 0, 0, -1));
        p.no(BAD, "too many there", p.x.copy(0, 1, 0, 0, 4));
        p.no(BAD, "too many here", p.x.copy(1, 0, 2, 0, 2));
        p.no(BAD, "places as great as can be", p.x.copy(0, 1, Integer.MAX_VALUE, 0, Integer.MAX_VALUE));
        p.no(BAD, "none behind the end", p.x.copy(0, 1, 6, 0, 0));
        p.rowIs("left as it was", 1, 9, 4, 5);
    }

    private static void promise4OnOneRow() {
        Probe p = new Probe("promise 4, one row");
        p.row(0, 0, 1, 2, 3, 4, 5);
        p.is("copy on", p.x.copy(0, 0, 0, 1, 4), 4);
        p.rowIs("copied on", 0, 1, 1, 2, 3, 4);
        p.is("copy back", p.x.copy(0, 0, 2, 0, 3), 3);
        p.rowIs("copied back", 0, 2, 3, 4, 3, 4);
    }

    private static void promise5() {
        Probe p = Probe.of("promise 5", "person 0; seed 0 0 0 0");
        p.row(0, 3, 5, Long.MIN_VALUE);
        p.is("element", p.x.element(0, 0), 5);
        p.is("element", p.x.element(0, 1), Long.MIN_VALUE);
        p.row(1, 0, 7);
        p.row(3, 0, 7);
        p.is("show", p.x.show(1, 0), 1);
        p.is("show", p.x.show(3, NONE), 1);
        int[][] none = {{0, -1}, {0, 2}, {0, Integer.MAX_VALUE}, {1, 0}, {2, 0}, {3, 0}, {-1, 0}, {8, 0}};
        for (int[] at : none) {
            p.is("element(" + at[0] + ", " + at[1] + ")", p.x.element(at[0], at[1]), 0);
        }
        p.refusals("element");
    }

    private static void promise6() {
        Probe p = Probe.of("promise 6", "person 0; seed 0 0 0 0; seed 1 0 0 0; seed 5 0 0 0");
        for (int sort = 0; sort < 5; sort++) {
            p.is("row", p.x.row(sort, sort, 1), 1);
            p.is("holds a row", p.x.holds(sort), sort);
        }
        p.is("show", p.x.show(5, 2), 1);
        p.is("holds a seed", p.x.holds(5), 12);
        p.is("holds nothing", p.x.holds(6), NONE);
        p.is("no shelf", p.x.holds(8), NONE);
        p.is("no shelf", p.x.holds(-1), NONE);
        p.refusals("holds");
    }

    private static void promise7() {
        Probe p = Probe.of("promise 7", "person 0; seed 0 0 0 0; seed 1 0 0 0");
        p.is("row", p.x.row(0, 3, 2), 1);
        p.is("show", p.x.show(0, 1), 1);
        p.is("holds", p.x.holds(0), 11);
        p.is("show", p.x.show(0, 0), 1);
        p.is("holds", p.x.holds(0), 10);
        p.no(BAD, "show(-1, ..)", p.x.show(-1, 0));
        p.no(BAD, "show(8, ..)", p.x.show(8, NONE));
        p.no(BAD, "seed 2", p.x.show(0, 2));
        p.no(BAD, "seed -2", p.x.show(0, -2));
        p.is("holds what it held", p.x.holds(0), 10);
        p.is("show NONE", p.x.show(0, NONE), 1);
        p.is("holds", p.x.holds(0), NONE);
        p.is("show NONE again", p.x.show(0, NONE), 1);
    }

    private static void promise8() {
        Probe p = Probe.of("promise 8", "person 0; person 9; person 18; owes 1 0 4; owes 2 1 1;"
                + "seed 0 1 5 2; seed 1 2 6 1; seed 2 3 7 0; seed 3 4 8 2; seed 4 5 9 1; seed 5 6 10 0");
        int[] creditors = {2, 1, 0, 2, 1, 0};
        // A row a kind of the seed, a column a kind it is taken for; OTHER where it is no such one.
        int[][] due = {
            {2, OTHER, OTHER, OTHER, OTHER, OTHER},
            {1, 0, OTHER, OTHER, OTHER, OTHER},
            {0, OTHER, 2, OTHER, OTHER, OTHER},
            {2, 0, OTHER, 40, OTHER, OTHER},
            {1, OTHER, 2, OTHER, 2, OTHER},
            {0, OTHER, OTHER, OTHER, OTHER, 6},
        };
        for (int seed = 0; seed < 6; seed++) {
            p.is("show", p.x.show(1, seed), 1);
            p.is("creditor", p.x.says(1, 0), creditors[seed]);
            for (int kind = 0; kind < 6; kind++) {
                String call = "seed " + seed + " says as " + kind;
                if (due[seed][kind] == OTHER) {
                    p.no(OTHER, call, p.x.says(1, kind));
                } else {
                    p.is(call, p.x.says(1, kind), due[seed][kind]);
                }
            }
        }
        promise8Refused(p);
        promise8Cheap();
    }

    private static void promise8Refused(Probe p) {
        p.no(BAD, "says(-1, ..)", p.x.says(-1, 0));
        p.no(BAD, "says(8, ..)", p.x.says(8, 0));
        p.no(BAD, "kind -1", p.x.says(0, -1));
        p.no(BAD, "kind 6 of nothing", p.x.says(0, 6));
        p.no(NOTHING, "nothing", p.x.says(0, 0));
        p.is("row", p.x.row(0, 2, 3), 1);
        p.no(OTHER, "a row", p.x.says(0, 0));
    }

    private static void promise8Cheap() {
        Probe p = Probe.of("promise 8, cheap", "person 0; seed 3 0 0 0; seed 5 0 0 0; seed 4 0 0 0; seed 5 1 0 0; seed 3 9 0 0");
        int[] kinds = {3, 5, 4, 5, 3};
        int[] due = {1, 1, 0, 1, 90};
        for (int seed = 0; seed < due.length; seed++) {
            p.is("show", p.x.show(0, seed), 1);
            p.is("says", p.x.says(0, kinds[seed]), due[seed]);
        }
    }
}
