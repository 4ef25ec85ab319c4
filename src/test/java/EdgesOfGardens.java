/** The edges that promises 9 to 19 name: how a garden is laid out, and what can be asked of it. */
final class EdgesOfGardens {
    private static final int BAD = Edge.BAD;
    private static final int STUCK = Edge.STUCK;
    private static final int FULL = Edge.FULL;
    private static final String EIGHT = "person 0;person 0;person 0;person 0;person 0;person 0;person 0;person 0";

    static void all() {
        promise9();
        promise10();
        promise11();
        promise12();
        promises13And14();
        promise15();
        promise16();
        promise17();
        promises18And19();
    }

    private static void promise9() {
        Edge.promise(9, "A CELL is a WALL, or not: 1; 0 if it was so.")
            .is(1, x -> x.wall(63, true)).is(1, x -> Edge.last(x.wall(63, true), x.isWall(63)))
            .asks(0, x -> x.wall(20, true)).is(1, x -> x.wall(20, false))
            .is(0, x -> Edge.last(x.wall(20, false), x.isWall(20))).asks(0, x -> x.wall(19, false))
            .asks(0, x -> x.wall(63, false))
            .is(0, x -> Edge.last(x.wall(20, false), x.wall(20, false)))
            .is(0, x -> Edge.last(x.wall(63, true), x.wall(63, true)))
            // Where somebody stands there is no wall, so that it isn't one was so; where a seed is, one may be.
            .asks(0, x -> x.wall(0, false)).is(1, x -> x.wall(9, true))
            .is(1, x -> Edge.last(x.wall(20, false), x.wall(20, true)))
            .empty().is(1, x -> x.wall(0, true));
        Edge.promise(9, "BAD;").outside(0, 63, (x, c) -> x.wall(c, true)).outside(0, 63, (x, c) -> x.wall(c, false));
        Edge.promise(9, "STUCK: somebody stands there.").refuses(STUCK, x -> x.wall(0, true))
            .refuses(STUCK, x -> x.wall(62, true)).refuses(STUCK, x -> x.wall(27, true))
            .is(1, x -> x.wall(63, true)).is(1, x -> Edge.last(x.step(0, 3), x.wall(0, true))).with(EIGHT + ";go 7 63")
            .refuses(STUCK, x -> x.wall(63, true)).refuses(STUCK, x -> x.wall(0, true))
            // Back is where he stood when all was kept.
            .with("person 0").is(1, x -> Edge.last(x.image(), x.step(0, 3), x.back(), x.wall(1, true)))
            .answers(STUCK, x -> Edge.last(x.image(), x.step(0, 3), x.back(), x.wall(0, true)));
    }

    private static void promise10() {
        Edge.promise(10, "One of the PEOPLE: the number.").is(3, x -> x.person(63)).is(3, x -> x.person(0))
            .is(63, x -> Edge.last(x.person(63), x.personOf(3, 0)))
            .is(4, x -> Edge.last(x.person(9), x.person(9))).is(0, x -> Edge.last(x.person(5), x.debt(3, 0)))
            .is(0, x -> Edge.last(x.person(5), x.debt(0, 3)))
            .empty().is(0, x -> x.person(0)).with(EIGHT.substring(9)).is(7, x -> x.person(0));
        Edge.promise(10, "BAD: also a WALL;").outside(0, 63, (x, c) -> x.person(c)).refuses(BAD, x -> x.person(20))
            .refuses(BAD, x -> x.person(21))
            .is(3, x -> Edge.last(x.wall(20, false), x.person(20)))
            .with(EIGHT + ";wall 7").refuses(BAD, x -> x.person(7)).outside(0, 63, (x, c) -> x.person(c))
            .with("wall 0;wall 63").refuses(BAD, x -> x.person(0)).refuses(BAD, x -> x.person(63));
        Edge.promise(10, "FULL.").with(EIGHT).refuses(FULL, x -> x.person(0)).refuses(FULL, x -> x.person(63))
            .with(EIGHT.substring(9)).answers(FULL, x -> Edge.last(x.person(0), x.person(0)));
    }

    private static void promise11() {
        Edge.promise(11, "A SEED: the number.").is(3, x -> x.sow(0, 0, 0, 0)).is(3, x -> x.sow(5, 9, 63, 2))
            .is(4, x -> Edge.last(x.sow(0, 0, 20, 0), x.sow(0, 0, 20, 0)))
            .is(5, x -> Edge.last(x.sow(5, 9, 63, 2), x.seedOf(3, 0)))
            .is(9, x -> Edge.last(x.sow(5, 9, 63, 2), x.seedOf(3, 1)))
            .is(63, x -> Edge.last(x.sow(5, 9, 63, 2), x.seedOf(3, 2)))
            .is(2, x -> Edge.last(x.sow(5, 9, 63, 2), x.seedOf(3, 3)))
            .with("person 0").is(0, x -> x.sow(0, 0, 0, 0)).with(x -> sown(x, 15)).is(15, x -> x.sow(0, 0, 0, 0));
        Edge.promise(11, "BAD;").outside(0, 5, (x, k) -> x.sow(k, 0, 0, 0)).outside(0, 9, (x, a) -> x.sow(0, a, 0, 0))
            .outside(0, 63, (x, c) -> x.sow(0, 0, c, 0))
            .outside(0, 2, (x, p) -> x.sow(0, 0, 0, p)).empty().refuses(BAD, x -> x.sow(0, 0, 0, 0))
            .with(x -> sown(x, 16)).outside(0, 5, (x, k) -> x.sow(k, 0, 0, 0))
            .outside(0, 0, (x, p) -> x.sow(0, 0, 0, p));
        Edge.promise(11, "FULL.").with(x -> sown(x, 16)).refuses(FULL, x -> x.sow(0, 0, 0, 0))
            .refuses(FULL, x -> x.sow(5, 9, 63, 0))
            .is(15, x -> Edge.last(x.weed(), x.sow(0, 0, 0, 0))).with(x -> sown(x, 15))
            .answers(FULL, x -> Edge.last(x.sow(0, 0, 0, 0), x.sow(0, 0, 0, 0)));
    }

    private static void sown(NextToItsDebtor x, int n) {
        x.person(0);
        for (int i = 0; i < n; i++) {
            x.sow(0, 0, 63, 0);
        }
    }

    private static void promise12() {
        Edge.promise(12, "x OWES y so many COINS from now on: how many ahead.").is(5, x -> x.owes(0, 1, 999))
            .is(999, x -> Edge.last(x.owes(0, 1, 999), x.debt(0, 1)))
            .is(5, x -> x.owes(0, 1, 0)).is(0, x -> Edge.last(x.owes(0, 1, 0), x.debt(0, 1)))
            .is(0, x -> x.owes(0, 2, 1)).is(1, x -> x.owes(0, 2, 1) + x.owes(0, 2, 0))
            .asks(5, x -> x.owes(0, 1, 5)).is(2, x -> Edge.last(x.owes(0, 1, 9), x.debt(1, 0)));
        Edge.promise(12, "BAD: also the same.").refuses(BAD, x -> x.owes(0, 0, 1)).refuses(BAD, x -> x.owes(2, 2, 0))
            .outside(0, 2, (x, p) -> x.owes(p, 0, 1))
            .outside(0, 2, (x, p) -> x.owes(0, p, 1)).outside(0, 999, (x, n) -> x.owes(0, 1, n))
            .outside(0, 2, (x, p) -> x.owes(p, p, 1))
            .empty().refuses(BAD, x -> x.owes(0, 1, 1)).with("person 0").refuses(BAD, x -> x.owes(0, 1, 1))
            .refuses(BAD, x -> x.owes(1, 0, 1));
    }

    private static void promises13And14() {
        Edge.promise(13, "THE TAPE gets one byte (0 to 255) behind it: its size.").is(7, x -> x.feed(0))
            .is(7, x -> x.feed(255)).is(8, x -> Edge.last(x.feed(0), x.feed(0)))
            .is(3, x -> Edge.last(x.feed('3'), Edge.read(x, ";open 2;open 3")))
            .is(1, x -> Edge.last(x.feed('3'), x.garden()))
            .empty().is(1, x -> x.feed(0)).with(x -> Edge.feed(x, " ".repeat(249))).is(250, x -> x.feed(' '));
        Edge.promise(13, "BAD;").outside(0, 255, (x, b) -> x.feed(b)).with(x -> Edge.feed(x, " ".repeat(250)))
            .outside(0, 255, (x, b) -> x.feed(b));
        Edge.promise(13, "FULL.").with(x -> Edge.feed(x, " ".repeat(250))).refuses(FULL, x -> x.feed(0))
            .refuses(FULL, x -> x.feed(255))
            .is(1, x -> Edge.last(x.wipe(), x.feed(0))).with(x -> Edge.feed(x, " ".repeat(249)))
            .answers(FULL, x -> Edge.last(x.feed(0), x.feed(0)));
        Edge.promise(14, "THE TAPE is empty: its size ahead.").is(6, x -> x.wipe())
            .is(0, x -> Edge.last(x.wipe(), x.wipe())).is(0, x -> Edge.last(x.wipe(), x.status(6)))
            .is(1, x -> Edge.last(x.wipe(), x.feed(';'))).empty().asks(0, x -> x.wipe())
            .with(x -> Edge.feed(x, " ".repeat(250))).is(250, x -> x.wipe())
            .refuses(BAD, -20, x -> Edge.last(x.wipe(), x.garden()), NextToItsDebtor::wipe);
    }

    private static void promise15() {
        Edge.promise(15, "THE TAPE is a GARDEN: how many STATEMENTS;").is(1, x -> x.garden())
            .is(2, x -> Edge.read(x, ";go 0 2"))
            .is(2, x -> Edge.last(Edge.read(x, ";go 0 2"), x.personOf(0, 0)))
            .is(1, x -> Edge.last(Edge.read(x, "2;wall 6"), x.isWall(6)))
            .empty().reads(1, "open0").reads(41, "open0;".repeat(41).substring(0, 245)).reads(1, "person 0")
            .with(x -> Edge.feed(x, " ".repeat(243))).is(1, x -> Edge.read(x, "wall 63"));
        Edge.promise(15, "-20 less the FAULT (that is refused, too: BAD).")
            .refuses(BAD, -20 - 6, x -> Edge.read(x, "x"), NextToItsDebtor::wipe)
            .refuses(BAD, -20 - 8, x -> Edge.read(x, "0;"), NextToItsDebtor::wipe)
            .empty().fault(0, "").fault(0, "?").fault(250, " ".repeat(250)).fault(249, " ".repeat(249) + "?")
            .fault(5, "open x")
            .with(x -> {
                Edge.furnish(x);
                x.wipe();
            }).fault(5, "wall 62").fault(5, "wall 27").fault(7, "person 20").fault(5, "owes 3 0 1")
            .fault(7, "owes 0 3 1").fault(11, "seed 0 0 0 3").fault(3, "go 3 0");
        Edge.promise(15, "THE TAPE is empty then, either way.").is(0, x -> Edge.last(x.garden(), x.status(6)))
            .answers(-20, x -> Edge.last(x.garden(), x.garden()))
            .answers(0, x -> Edge.last(Edge.read(x, "x"), x.status(6)))
            .answers(-20, x -> Edge.last(Edge.read(x, "x"), x.garden()))
            .answers(1, x -> Edge.last(Edge.read(x, "x"), Edge.read(x, "wall 5"), x.isWall(5)));
    }

    private static void promise16() {
        Edge e = Edge.promise(16, "Of a SEED: KIND (0), a (1), CELL (2), CREDITOR (3), REACH (4), UP (5; 1, 0).")
            .with("person 0;person 27;owes 0 1 1;seed 0 0 9 1;seed 1 1 9 1;seed 2 2 63 0;seed 3 3 0 1;seed 4 8 2 0;seed 5 9 1 1");
        int[][] due = {{0, 0, 9, 1, 1, 1}, {1, 1, 9, 1, 0, 0}, {2, 2, 63, 0, 2, 0}, {3, 3, 0, 1, 0, 0}, {4, 8, 2, 0, 2, 1}, {5, 9, 1, 1, 1, 0}};
        for (int seed = 0; seed < 6; seed++) {
            for (int what = 0; what < 6; what++) {
                int d = seed;
                int w = what;
                e.asks(due[d][w], x -> x.seedOf(d, w));
            }
        }
        e.with(x -> sown(x, 16)).asks(63, x -> x.seedOf(15, 2)).asks(0, x -> x.seedOf(15, 5));
        Edge.promise(16, "BAD.").outside(0, 2, (x, d) -> x.seedOf(d, 0)).outside(0, 5, (x, w) -> x.seedOf(2, w))
            .outside(0, 5, (x, w) -> x.seedOf(0, w))
            .outside(0, 2, (x, d) -> x.seedOf(d, 6)).empty().refuses(BAD, x -> x.seedOf(0, 0)).with(x -> sown(x, 16))
            .outside(0, 15, (x, d) -> x.seedOf(d, 0))
            .answers(BAD, x -> Edge.last(x.weed(), x.seedOf(15, 0)));
    }

    private static void promise17() {
        Edge e = Edge.promise(17, "Of one of the PEOPLE: the CELL (0), all he OWES (1), all that is OWED him (2), SEEDS of his (3, how many), SEEDS that are UP BY him (4, how many).");
        int[][] due = {{0, 5, 11, 1, 1}, {62, 9, 5, 2, 1}, {27, 9, 7, 0, 0}};
        for (int person = 0; person < 3; person++) {
            for (int what = 0; what < 5; what++) {
                int p = person;
                int w = what;
                e.asks(due[p][w], x -> x.personOf(p, w));
            }
        }
        e.with("person 63").asks(63, x -> x.personOf(0, 0)).asks(0, x -> x.personOf(0, 1))
            .asks(0, x -> x.personOf(0, 2)).asks(0, x -> x.personOf(0, 3)).asks(0, x -> x.personOf(0, 4))
            .with(x -> {
                Edge.read(x, EIGHT);
                for (int p = 0; p < 7; p++) {
                    x.owes(7, p, 999);
                    x.owes(p, 7, 999);
                }
                for (int i = 0; i < 16; i++) {
                    x.sow(2, 0, 18, 0);
                }
            }).asks(6993, x -> x.personOf(7, 1)).asks(6993, x -> x.personOf(7, 2)).asks(16, x -> x.personOf(0, 3))
            .asks(16, x -> x.personOf(7, 4)).asks(0, x -> x.personOf(6, 4));
        Edge.promise(17, "BAD.").outside(0, 2, (x, p) -> x.personOf(p, 0)).outside(0, 4, (x, w) -> x.personOf(2, w))
            .outside(0, 4, (x, w) -> x.personOf(0, w))
            .outside(0, 2, (x, p) -> x.personOf(p, 5)).empty().refuses(BAD, x -> x.personOf(0, 0)).with(EIGHT)
            .outside(0, 7, (x, p) -> x.personOf(p, 0));
    }

    private static void promises18And19() {
        Edge.promise(18, "How many COINS x OWES y (0: the same).").asks(5, x -> x.debt(0, 1)).asks(2, x -> x.debt(1, 0))
            .asks(0, x -> x.debt(0, 2)).asks(9, x -> x.debt(2, 0))
            .asks(0, x -> x.debt(0, 0)).asks(0, x -> x.debt(2, 2))
            .is(999, x -> Edge.last(x.owes(2, 1, 999), x.debt(2, 1))).with(EIGHT).asks(0, x -> x.debt(7, 0))
            .asks(0, x -> x.debt(7, 7));
        Edge.promise(18, "BAD.").outside(0, 2, (x, p) -> x.debt(p, 0)).outside(0, 2, (x, p) -> x.debt(0, p))
            .outside(0, 2, (x, p) -> x.debt(p, p))
            .empty().refuses(BAD, x -> x.debt(0, 0)).with(EIGHT).outside(0, 7, (x, p) -> x.debt(p, 0))
            .outside(0, 7, (x, p) -> x.debt(0, p));
        Edge.promise(19, "Whether a CELL is a WALL: 1, 0.").asks(1, x -> x.isWall(20)).asks(1, x -> x.isWall(21))
            .asks(0, x -> x.isWall(19)).asks(0, x -> x.isWall(22)).asks(0, x -> x.isWall(0))
            .asks(0, x -> x.isWall(63)).with("wall 0;wall 63").asks(1, x -> x.isWall(0)).asks(1, x -> x.isWall(63))
            .asks(0, x -> x.isWall(1)).asks(0, x -> x.isWall(62))
            .asks(0, x -> x.isWall(31)).asks(0, x -> x.isWall(32));
        Edge.promise(19, "BAD.").outside(0, 63, (x, c) -> x.isWall(c));
    }
}
