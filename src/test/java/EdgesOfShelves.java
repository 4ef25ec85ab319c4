/** The edges that promises 1 to 8 name: a new object, and shelves. */
final class EdgesOfShelves {
    private static final int NONE = Edge.NONE;
    private static final int BAD = Edge.BAD;
    private static final int OTHER = Edge.OTHER;
    private static final int NOTHING = Edge.NOTHING;
    private static final int STUCK = Edge.STUCK;
    private static final int LEAST = Integer.MIN_VALUE;
    private static final int GREATEST = Integer.MAX_VALUE;

    static void all() {
        promise1();
        promise2();
        promise3();
        promise4();
        promise4Refused();
        promise5();
        promise6();
        promise7();
        promise8();
        promise8Refused();
    }

    private static void promise1() {
        Edge.promise(1, "No PEOPLE, no SEEDS, no WALLS;").empty()
            .asks(0, x -> x.status(0)).asks(0, x -> x.status(1)).asks(0, x -> x.status(2)).asks(0, x -> x.status(3))
            .asks(0, x -> x.status(4))
            .asks(0, x -> x.status(5)).asks(1, x -> x.status(7)).asks(0, x -> x.isWall(0)).asks(0, x -> x.isWall(63))
            .asks(64, x -> x.calm())
            .refuses(BAD, x -> x.personOf(0, 0)).refuses(BAD, x -> x.seedOf(0, 0)).refuses(BAD, x -> x.up(0))
            .refuses(BAD, x -> x.by(0))
            .refuses(STUCK, x -> x.back())
            .asks(0, x -> x.status(12) + x.status(13) + x.status(14) + x.status(15) + x.status(16));
        Edge e = Edge.promise(1, "SHELVES hold NOTHING;").empty().asks(0, x -> x.status(8));
        for (int s = 0; s < 8; s++) {
            int shelf = s;
            e.asks(NONE, x -> x.holds(shelf)).refuses(NOTHING, x -> x.set(shelf, 0, 1));
        }
        Edge.promise(1, "THE TAPE is empty.").empty().asks(0, x -> x.status(6)).is(0, x -> x.wipe())
            .is(1, x -> x.feed(0)).fault(0, "");
    }

    private static void promise2() {
        Edge.promise(2, "SHELF s holds a new ROW: 1.")
            .is(1, x -> x.row(0, 0, 0)).is(1, x -> x.row(7, 4, 40)).is(1, x -> x.row(2, 3, 40))
            .is(1, x -> x.row(6, 0, 1))
            // Over a row and over a seed: nothing of what was there is left.
            .is(0, x -> Edge.last(x.row(0, 0, 3), x.element(0, 0)))
            .is(0, x -> Edge.last(x.row(0, 0, 3), x.element(0, 2)))
            .is(0, x -> Edge.last(x.row(0, 0, 0), x.row(0, 0, 3), x.element(0, 2)))
            .is(3, x -> Edge.last(x.row(2, 3, 2), x.holds(2))).is(4, x -> Edge.last(x.row(0, 4, 0), x.holds(0)))
            .is(0, x -> Edge.last(x.row(0, 1, 2), x.element(0, 2)))
            .is(1, x -> Edge.last(x.row(0, 0, 40), x.set(0, 39, 1)));
        Edge.promise(2, "BAD.")
            .outside(0, 7, (x, s) -> x.row(s, 0, 1)).outside(0, 4, (x, sort) -> x.row(0, sort, 1))
            .outside(0, 40, (x, n) -> x.row(0, 0, n))
            .outside(0, 4, (x, sort) -> x.row(2, sort, 0)).outside(0, 40, (x, n) -> x.row(6, 3, n));
    }

    private static void promise3() {
        Edge.promise(3, "Element i of the ROW in SHELF s becomes v: 1.")
            .is(1, x -> x.set(0, 0, -1)).is(-1, x -> Edge.last(x.set(0, 0, -1), x.element(0, 0)))
            .is(9, x -> Edge.last(x.set(0, 2, 9), x.element(0, 2)))
            .is(9, x -> Edge.last(x.set(4, 39, 9), x.element(4, 39)))
            .is(2, x -> Edge.last(x.set(0, 0, 9), x.element(0, 1)))
            .is(2, x -> Edge.last(x.set(0, 2, 9), x.element(0, 1)))
            .is(Long.MIN_VALUE, x -> Edge.last(x.set(1, 3, Long.MIN_VALUE), x.element(1, 3)))
            .is(Long.MAX_VALUE, x -> Edge.last(x.set(1, 3, Long.MAX_VALUE), x.element(1, 3)))
            .is(-128, x -> Edge.last(x.set(0, 1, 128), x.element(0, 1)))
            .is(0, x -> Edge.last(x.set(0, 1, 256), x.element(0, 1)))
            .is(0, x -> Edge.last(x.set(4, 1, 1L << 32), x.element(4, 1)));
        Edge.promise(3, "BAD SHELF;").outside(0, 7, (x, s) -> x.set(s, 0, 1)).outside(0, 7, (x, s) -> x.set(s, -1, 1));
        Edge.promise(3, "OTHER;").refuses(OTHER, x -> x.set(2, 0, 1)).refuses(OTHER, x -> x.set(2, -1, 1))
            .refuses(OTHER, x -> x.set(2, 40, 1));
        Edge.promise(3, "NOTHING;").refuses(NOTHING, x -> x.set(7, 0, 1)).refuses(NOTHING, x -> x.set(6, -1, 1))
            .refuses(NOTHING, x -> x.set(6, 40, 1));
        Edge.promise(3, "BAD i.").outside(0, 2, (x, i) -> x.set(0, i, 1)).outside(0, 39, (x, i) -> x.set(4, i, 1))
            // A row without elements has no place at all.
            .outside(0, -1, (x, i) -> x.set(3, i, 1));
    }

    private static void promise4() {
        Edge.promise(4, "n elements of the ROW in SHELF p from place i on come to places j on of that in q (as they were): n.")
            .is(2, x -> x.copy(0, 5, 1, 0, 2)).is(2, x -> Edge.last(x.copy(0, 5, 1, 0, 2), x.element(5, 0)))
            .is(3, x -> Edge.last(x.copy(0, 5, 1, 0, 2), x.element(5, 1)))
            .is(3, x -> Edge.last(x.copy(0, 5, 2, 1, 1), x.element(5, 1)))
            .is(7, x -> Edge.last(x.copy(0, 5, 2, 1, 1), x.element(5, 0)))
            .is(3, x -> Edge.last(x.copy(0, 5, 1, 0, 2), x.element(0, 2)))
            .is(3, x -> x.copy(0, 0, 0, 0, 3)).is(40, x -> x.copy(4, 4, 0, 0, 40)).asks(40, x -> x.copy(4, 4, 0, 0, 40))
            // None of them, from any place to any place, the ends too.
            .asks(0, x -> x.copy(0, 5, 0, 0, 0)).asks(0, x -> x.copy(0, 5, 3, 2, 0)).asks(0, x -> x.copy(0, 5, 1, 2, 0))
            .asks(0, x -> x.copy(3, 3, 0, 0, 0))
            // On one and the same row, on and back: as they were ahead of it.
            .is(1, x -> Edge.last(x.copy(0, 0, 0, 1, 2), x.element(0, 0)))
            .is(1, x -> Edge.last(x.copy(0, 0, 0, 1, 2), x.element(0, 1)))
            .is(2, x -> Edge.last(x.copy(0, 0, 0, 1, 2), x.element(0, 2)))
            .is(2, x -> Edge.last(x.copy(0, 0, 1, 0, 2), x.element(0, 0)))
            .is(3, x -> Edge.last(x.copy(0, 0, 1, 0, 2), x.element(0, 1)))
            .is(3, x -> Edge.last(x.copy(0, 0, 1, 0, 2), x.element(0, 2)))
            .with(x -> {
                Edge.row(x, 0, 3, Long.MIN_VALUE, Long.MAX_VALUE);
                x.row(7, 3, 40);
            }).is(Long.MIN_VALUE, x -> Edge.last(x.copy(0, 7, 0, 39, 1), x.element(7, 39)))
            .is(Long.MAX_VALUE, x -> Edge.last(x.copy(0, 7, 0, 38, 2), x.element(7, 39)))
            .with(x -> {
                x.row(0, 4, 1);
                x.row(7, 4, 1);
                x.set(0, 0, 5);
            }).is(1, x -> Edge.last(x.copy(0, 7, 0, 0, 1), x.element(7, 0)));
    }

    private static void promise4Refused() {
        Edge.promise(4, "BAD SHELVES;")
            .outside(0, 7, (x, s) -> x.copy(s, 0, 0, 0, 1)).outside(0, 7, (x, s) -> x.copy(0, s, 0, 0, 1))
            .outside(0, 7, (x, s) -> x.copy(s, 2, 0, 0, 1)).outside(0, 7, (x, s) -> x.copy(2, s, 0, 0, 1))
            .outside(0, 7, (x, s) -> x.copy(s, 6, 0, 0, 1)).outside(0, 7, (x, s) -> x.copy(6, s, 0, 0, 1))
            .outside(0, 7, (x, s) -> x.copy(s, s, 0, 0, 1));
        Edge.promise(4, "OTHER (also ROWS of two SORTS, if both hold something);")
            .refuses(OTHER, x -> x.copy(2, 0, 0, 0, 1)).refuses(OTHER, x -> x.copy(0, 2, 0, 0, 1))
            .refuses(OTHER, x -> x.copy(2, 2, 0, 0, 1))
            .refuses(OTHER, x -> x.copy(2, 6, 0, 0, 1)).refuses(OTHER, x -> x.copy(6, 2, 0, 0, 1))
            .refuses(OTHER, x -> x.copy(2, 0, -1, -1, -1))
            .refuses(OTHER, x -> x.copy(0, 1, 0, 0, 1)).refuses(OTHER, x -> x.copy(1, 0, 0, 0, 0))
            .refuses(OTHER, x -> x.copy(0, 3, 0, 0, 0))
            .refuses(OTHER, x -> x.copy(4, 1, -1, 0, 1)).refuses(OTHER, x -> x.copy(4, 1, 0, 0, 41))
            .refuses(NOTHING, x -> x.copy(0, 6, 0, 0, 1));
        Edge.promise(4, "NOTHING;")
            .refuses(NOTHING, x -> x.copy(6, 0, 0, 0, 1)).refuses(NOTHING, x -> x.copy(0, 7, 0, 0, 1))
            .refuses(NOTHING, x -> x.copy(6, 6, 0, 0, 0))
            .refuses(NOTHING, x -> x.copy(6, 7, 0, 0, 0)).refuses(NOTHING, x -> x.copy(0, 6, -1, 0, 1))
            .refuses(NOTHING, x -> x.copy(6, 0, 0, 0, -1))
            .refuses(NOTHING, x -> x.copy(6, 3, 0, 0, 0)).refuses(NOTHING, x -> x.copy(4, 6, 0, 0, 41));
        Edge.promise(4, "BAD the others.")
            .refuses(BAD, x -> x.copy(0, 5, -1, 0, 1)).refuses(BAD, x -> x.copy(0, 5, 0, -1, 1))
            .refuses(BAD, x -> x.copy(0, 5, 0, 0, -1))
            .refuses(BAD, x -> x.copy(0, 5, 0, 0, 3)).refuses(BAD, x -> x.copy(5, 0, 0, 0, 3))
            .refuses(BAD, x -> x.copy(0, 5, 2, 0, 2))
            .refuses(BAD, x -> x.copy(0, 5, 0, 1, 2)).refuses(BAD, x -> x.copy(0, 5, 3, 0, 1))
            .refuses(BAD, x -> x.copy(0, 5, 0, 2, 1))
            .refuses(BAD, x -> x.copy(0, 5, 4, 0, 0)).refuses(BAD, x -> x.copy(0, 5, 0, 3, 0))
            .refuses(BAD, x -> x.copy(0, 5, -1, 0, 0))
            .refuses(BAD, x -> x.copy(0, 5, 0, -1, 0)).refuses(BAD, x -> x.copy(3, 3, 0, 0, 1))
            .refuses(BAD, x -> x.copy(4, 4, 0, 0, 41))
            // As great as can be: their sum would wrap to a number that may be.
            .refuses(BAD, x -> x.copy(0, 5, GREATEST, 0, 1)).refuses(BAD, x -> x.copy(0, 5, 0, GREATEST, 1))
            .refuses(BAD, x -> x.copy(0, 5, 0, 0, GREATEST))
            .refuses(BAD, x -> x.copy(0, 5, GREATEST, 0, GREATEST)).refuses(BAD, x -> x.copy(0, 5, 1, 1, GREATEST))
            .refuses(BAD, x -> x.copy(0, 5, GREATEST, GREATEST, 2))
            .refuses(BAD, x -> x.copy(0, 5, LEAST, 0, 1)).refuses(BAD, x -> x.copy(0, 5, 0, LEAST, 1))
            .refuses(BAD, x -> x.copy(0, 5, 0, 0, LEAST))
            .refuses(BAD, x -> x.copy(0, 5, LEAST, LEAST, LEAST)).refuses(BAD, x -> x.copy(0, 5, 3, 0, LEAST))
            .refuses(BAD, x -> x.copy(0, 5, LEAST, 0, LEAST));
    }

    private static void promise5() {
        Edge e = Edge.promise(5, "Element i of the ROW; 0: none, no ROW (nothing is refused).")
            .asks(1, x -> x.element(0, 0)).asks(3, x -> x.element(0, 2)).asks(0, x -> x.element(4, 39))
            .with(x -> {
                Edge.furnish(x);
                x.set(4, 39, -1);
                x.set(4, 0, GREATEST);
            }).asks(-1, x -> x.element(4, 39)).asks(GREATEST, x -> x.element(4, 0));
        int[][] none = {{0, -1}, {0, 3}, {0, LEAST}, {0, GREATEST}, {4, 40}, {4, -1}, {3, 0}, {2, 0}, {2, 1}, {6, 0}, {7, 0}, {8, 0}, {-1, 0}, {LEAST, 0}, {GREATEST, 0}, {8, -1}};
        for (int[] at : none) {
            e.asks(0, x -> x.element(at[0], at[1]));
        }
        // A shorter row, a seed or nothing in a row's place leaves none of its elements behind.
        e.with(x -> {
            Edge.row(x, 0, 0, 5, 6, 7);
            x.row(0, 0, 2);
        }).asks(0, x -> x.element(0, 2)).asks(0, x -> x.element(0, 0)).with(x -> {
            Edge.furnish(x);
            x.show(0, 0);
            x.show(5, NONE);
        }).asks(0, x -> x.element(0, 0)).asks(0, x -> x.element(5, 0));
    }

    private static void promise6() {
        Edge.promise(6, "What SHELF s holds: NONE NOTHING, no SHELF; 0 to 4 a ROW by its SORT; 10 and the number of a SEED.")
            .asks(NONE, x -> x.holds(6)).asks(NONE, x -> x.holds(7)).asks(NONE, x -> x.holds(8))
            .asks(NONE, x -> x.holds(-1)).asks(NONE, x -> x.holds(LEAST)).asks(NONE, x -> x.holds(GREATEST))
            .asks(0, x -> x.holds(0)).asks(3, x -> x.holds(1)).asks(4, x -> x.holds(3)).asks(2, x -> x.holds(4))
            .asks(11, x -> x.holds(2))
            .is(1, x -> Edge.last(x.row(7, 1, 0), x.holds(7)))
            .with(x -> {
                x.person(0);
                for (int i = 0; i < 16; i++) {
                    x.sow(0, 0, 0, 0);
                }
                x.show(0, 0);
                x.show(7, 15);
            }).asks(10, x -> x.holds(0)).asks(25, x -> x.holds(7));
    }

    private static void promise7() {
        Edge.promise(7, "SHELF s holds a SEED, or NOTHING (seed NONE): 1.")
            .is(1, x -> x.show(0, 0)).is(10, x -> Edge.last(x.show(0, 0), x.holds(0)))
            .is(12, x -> Edge.last(x.show(7, 2), x.holds(7))).is(10, x -> Edge.last(x.show(2, 0), x.holds(2)))
            .is(1, x -> x.show(0, NONE)).is(NONE, x -> Edge.last(x.show(0, NONE), x.holds(0)))
            .is(NONE, x -> Edge.last(x.show(2, NONE), x.holds(2))).asks(1, x -> x.show(6, NONE))
            .asks(1, x -> x.show(2, 1)).is(11, x -> Edge.last(x.show(6, 1), x.holds(2)))
            .is(11, x -> Edge.last(x.show(6, 1), x.holds(6)))
            .empty().asks(1, x -> x.show(0, NONE)).asks(1, x -> x.show(7, NONE));
        Edge.promise(7, "BAD.").outside(0, 7, (x, s) -> x.show(s, 0)).outside(0, 7, (x, s) -> x.show(s, NONE))
            .outside(NONE, 2, (x, d) -> x.show(0, d))
            .outside(NONE, 2, (x, d) -> x.show(2, d)).empty().refuses(BAD, x -> x.show(0, 0));
    }

    private static void promise8() {
        String text = "person 0;person 9;person 18;owes 1 0 4;owes 2 1 1;seed 0 1 5 2;seed 1 2 6 1;seed 2 3 7 0;seed 3 9 8 2;seed 4 5 9 1;seed 5 9 10 0;seed 3 0 8 2;seed 5 0 8 2";
        Edge e = Edge.promise(8, "What the SEED in SHELF s, taken for one of a KIND, says: SEED its CREDITOR; SHY, BOLD its REACH; PROUD, LATE how many COINS at least it takes; RANK how many of the PEOPLE OWE anybody.");
        int[][] says = {{0, 0, 2}, {1, 0, 1}, {1, 1, 0}, {2, 0, 0}, {2, 2, 2}, {3, 0, 2}, {3, 1, 0}, {3, 3, 90}, {4, 0, 1}, {4, 2, 2}, {4, 4, 2}, {5, 0, 0}, {5, 5, 9}, {6, 3, 1}, {7, 5, 1}};
        for (int[] s : says) {
            e.with(x -> {
                Edge.read(x, text);
                x.show(7, s[0]);
            }).asks(s[2], x -> x.says(7, s[1]));
        }
        e.with("person 0;person 0;person 0;owes 0 1 1;owes 0 2 1;seed 4 0 0 0")
            .is(1, x -> Edge.last(x.show(0, 0), x.says(0, 4)))
            .with("person 0;person 0;person 0;owes 1 0 1;owes 2 0 1;seed 4 0 0 0")
            .is(2, x -> Edge.last(x.show(0, 0), x.says(0, 4)))
            .with("person 0;seed 4 0 0 0").is(0, x -> Edge.last(x.show(0, 0), x.says(0, 4)))
            .with("person 0;person 0;person 0;person 0;person 0;person 0;person 0;person 0;seed 4 0 0 0")
            .is(8, x -> {
                for (int p = 0; p < 8; p++) {
                    x.owes(p, (p + 1) % 8, 1);
                }
                return x.show(0, 0) * x.says(0, 4);
            });
    }

    private static void promise8Refused() {
        Edge.promise(8, "BAD SHELF, KIND;").outside(0, 7, (x, s) -> x.says(s, 0)).outside(0, 5, (x, k) -> x.says(2, k))
            .outside(0, 5, (x, k) -> x.says(6, k))
            .outside(0, 5, (x, k) -> x.says(0, k)).outside(0, 7, (x, s) -> x.says(s, 6));
        Edge other = Edge.promise(8, "OTHER (also if it is of no such KIND nor of one under it);")
            .refuses(OTHER, x -> x.says(0, 0)).refuses(OTHER, x -> x.says(3, 5));
        int[][] no = {{0, 1}, {0, 2}, {0, 3}, {0, 4}, {0, 5}, {1, 2}, {1, 3}, {1, 4}, {1, 5}, {2, 1}, {2, 3}, {2, 4}, {2, 5},
            {3, 2}, {3, 4}, {3, 5}, {4, 1}, {4, 3}, {4, 5}, {5, 1}, {5, 2}, {5, 3}, {5, 4}};
        for (int[] pair : no) {
            other.with(x -> {
                x.person(0);
                x.sow(pair[0], 1, 0, 0);
                x.show(7, 0);
            }).refuses(OTHER, x -> x.says(7, pair[1]));
        }
        Edge.promise(8, "NOTHING.").refuses(NOTHING, x -> x.says(6, 0)).refuses(NOTHING, x -> x.says(7, 5)).empty()
            .refuses(NOTHING, x -> x.says(0, 0));
    }
}
