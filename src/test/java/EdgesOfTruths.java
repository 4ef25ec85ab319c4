import java.util.function.ToLongBiFunction;

/** The edges that promises 40 to 51 name: told walks, what comes to pass in truth, images, and counts. */
final class EdgesOfTruths {
    private static final int NONE = Edge.NONE;
    private static final int BAD = Edge.BAD;
    private static final int OTHER = Edge.OTHER;
    private static final int NOTHING = Edge.NOTHING;
    private static final int STUCK = Edge.STUCK;
    private static final int LEAST = Integer.MIN_VALUE;
    private static final int GREATEST = Integer.MAX_VALUE;
    private static final String EIGHT = "person 0;person 0;person 0;person 0;person 0;person 0;person 0;person 0";

    static void all() {
        promise40();
        promise41();
        promise42();
        promise43();
        promise44();
        promise45();
        promise46();
        promise47();
        promise48();
        promise49();
        promise50();
        promise50Refused();
        promise51();
        promise51Refusals();
    }

    private static ToLongBiFunction<NextToItsDebtor, int[]> told(String name) {
        return switch (name) {
            case "judge" -> (x, a) -> x.judge(a[0], a[1], a[2]);
            case "seen" -> (x, a) -> x.seen(a[0], a[1], a[2]);
            default -> (x, a) -> x.walk(a[0], a[1], a[2]);
        };
    }

    private static void bad(Edge e, String name) {
        ToLongBiFunction<NextToItsDebtor, int[]> call = told(name);
        e.outside(0, 7, (x, s) -> call.applyAsLong(x, new int[] {0, s, 0}))
            .outside(0, 40, (x, n) -> call.applyAsLong(x, new int[] {0, 4, n}))
            .outside(0, 40, (x, n) -> call.applyAsLong(x, new int[] {0, 2, n}))
            .outside(0, 40, (x, n) -> call.applyAsLong(x, new int[] {0, 6, n}))
            .outside(0, 2, (x, p) -> call.applyAsLong(x, new int[] {p, 0, 0}))
            .outside(0, 2, (x, p) -> call.applyAsLong(x, new int[] {p, 2, 0}))
            .outside(0, 2, (x, p) -> call.applyAsLong(x, new int[] {p, 6, 0}))
            .outside(0, 2, (x, p) -> call.applyAsLong(x, new int[] {p, 0, 4}));
    }

    private static void otherAndNothing(Edge other, Edge nothing, String name) {
        ToLongBiFunction<NextToItsDebtor, int[]> call = told(name);
        for (int n : new int[] {0, 1, 40}) {
            other.refuses(OTHER, x -> call.applyAsLong(x, new int[] {0, 2, n}));
            nothing.refuses(NOTHING, x -> call.applyAsLong(x, new int[] {0, 6, n}))
                .refuses(NOTHING, x -> call.applyAsLong(x, new int[] {2, 7, n}));
        }
    }

    private static void fewer(Edge e, String name) {
        ToLongBiFunction<NextToItsDebtor, int[]> call = told(name);
        e.refuses(BAD, x -> call.applyAsLong(x, new int[] {0, 0, 4}))
            .refuses(BAD, x -> call.applyAsLong(x, new int[] {0, 0, 40}))
            .refuses(BAD, x -> call.applyAsLong(x, new int[] {0, 3, 1}))
            .refuses(BAD, x -> call.applyAsLong(x, new int[] {0, 5, 3}));
    }

    private static void promise40() {
        Edge e = Edge.promise(40, "WRONG of a told WALK of one of the PEOPLE by the first n elements (0 to 40) of the ROW in SHELF s; NONE.")
            .asks(NONE, x -> x.judge(0, 0, 0)).asks(NONE, x -> x.judge(0, 3, 0)).asks(NONE, x -> x.judge(0, 0, 1))
            .asks(NONE, x -> x.judge(0, 0, 3)).asks(0, x -> x.judge(1, 0, 3)).asks(0, x -> x.judge(0, 4, 40))
            .asks(0, x -> x.judge(0, 5, 2));
        long[][] rows = {{1, 2, 3, 4}, {1, 2, 3, 64}, {1, 2, 3, -1}, {1, 2, 3, 11}, {1, 2, 3, 3}, {1, 2, 3, 12}, {1, 2, 4, 3}, {1, 2, 3, 2}, {1, 2, 3, (1L << 32) + 4}, {64, 1, 2, 3}};
        int[] due = {NONE, 3, 3, 3, 3, 3, 2, NONE, 3, 0};
        for (int i = 0; i < rows.length; i++) {
            long[] row = rows[i];
            e.with(x -> {
                Edge.read(x, "person 0;wall 11");
                Edge.row(x, 7, 3, row);
            }).asks(due[i], x -> x.judge(0, 7, 4));
        }
        bad(Edge.promise(40, "BAD SHELF, n, him;"), "judge");
        otherAndNothing(Edge.promise(40, "OTHER;"), Edge.promise(40, "NOTHING;"), "judge");
        fewer(Edge.promise(40, "BAD: fewer elements."), "judge");
    }

    private static void walker(NextToItsDebtor x, int wall) {
        Edge.read(x, "person 0;person 63;owes 0 1 1;seed 1 0 2 1;seed 1 0 0 1");
        Edge.row(x, 0, 0, 1, 2, 3, 4);
        x.wall(wall, true);
    }

    private static void promise41() {
        Edge.promise(41, "SEEN of it; NONE.").asks(0, x -> x.seen(0, 0, 1)).asks(NONE, x -> x.seen(0, 0, 0))
            .with(x -> walker(x, 60)).asks(1, x -> x.seen(0, 0, 4)).asks(1, x -> x.seen(0, 0, 2))
            .asks(NONE, x -> x.seen(0, 0, 1)).asks(NONE, x -> x.seen(0, 0, 0));
        // The line tells BAD twice: ahead of what the shelf holds, and, of fewer elements, behind it.
        Edge bad = Edge.promise(41, "BAD; OTHER; NOTHING; BAD;");
        bad(bad, "seen");
        otherAndNothing(bad, bad, "seen");
        fewer(bad, "seen");
        Edge.promise(41, "STUCK: it is WRONG.").refuses(STUCK, x -> x.seen(1, 0, 1))
            .refuses(STUCK, x -> x.seen(0, 4, 1)).with(x -> walker(x, 4)).refuses(STUCK, x -> x.seen(0, 0, 4))
            .asks(1, x -> x.seen(0, 0, 3))
            .with(x -> {
                walker(x, 60);
                x.set(0, 3, 64);
            }).refuses(STUCK, x -> x.seen(0, 0, 4)).asks(1, x -> x.seen(0, 0, 3));
        Edge.promise(41, "(NONE isn't refused.)").with(x -> walker(x, 60)).asks(NONE, x -> x.seen(0, 0, 1))
            .asks(NONE, x -> x.seen(1, 0, 0));
    }

    private static void promise42() {
        Edge.promise(42, "It comes to pass in truth: the CELL he is on.").is(1, x -> x.walk(0, 0, 1))
            .is(1, x -> Edge.last(x.walk(0, 0, 1), x.personOf(0, 0))).asks(0, x -> x.walk(0, 0, 0))
            .asks(62, x -> x.walk(1, 3, 0))
            .with(x -> walker(x, 60)).is(4, x -> x.walk(0, 0, 4))
            .is(4, x -> Edge.last(x.walk(0, 0, 4), x.personOf(0, 0)))
            .is(63, x -> Edge.last(x.walk(0, 0, 4), x.personOf(1, 0)))
            .is(2, x -> Edge.last(x.walk(0, 0, 2), x.personOf(0, 0)))
            .with(x -> {
                x.person(63);
                x.row(0, 2, 40);
                for (int i = 0; i < 40; i++) {
                    x.set(0, i, i % 2 == 0 ? 62 : 63);
                }
            }).is(62, x -> x.walk(0, 0, 39)).asks(63, x -> x.walk(0, 0, 40));
        Edge bad = Edge.promise(42, "BAD; OTHER; NOTHING; BAD;");
        bad(bad, "walk");
        otherAndNothing(bad, bad, "walk");
        fewer(bad, "walk");
        Edge.promise(42, "STUCK likewise.").refuses(STUCK, x -> x.walk(1, 0, 1)).refuses(STUCK, x -> x.walk(0, 4, 40))
            .with(x -> walker(x, 4)).refuses(STUCK, x -> x.walk(0, 0, 4)).is(3, x -> x.walk(0, 0, 3))
            .with(x -> {
                walker(x, 60);
                x.set(0, 3, 64);
            }).refuses(STUCK, x -> x.walk(0, 0, 4));
    }

    private static void promise43() {
        Edge.promise(43, "A step (0 up, 1 down, 2 left, 3 right) in truth: the CELL.").is(19, x -> x.step(2, 0))
            .is(35, x -> x.step(2, 1)).is(26, x -> x.step(2, 2)).is(28, x -> x.step(2, 3))
            .is(28, x -> Edge.last(x.step(2, 3), x.personOf(2, 0)))
            .is(0, x -> Edge.last(x.step(2, 3), x.personOf(0, 0)))
            .is(1, x -> x.step(0, 3)).is(8, x -> x.step(0, 1)).is(63, x -> x.step(1, 3)).is(54, x -> x.step(1, 0))
            // Where seeds and others are he may go, and where it isn't quiet.
            .is(9, x -> Edge.last(x.step(0, 3), x.step(0, 1))).with("person 0;person 1").is(1, x -> x.step(0, 3));
        Edge.promise(43, "BAD;").outside(0, 2, (x, p) -> x.step(p, 3)).outside(0, 3, (x, w) -> x.step(2, w))
            .outside(0, 3, (x, w) -> x.step(0, w)).empty().refuses(BAD, x -> x.step(0, 0));
        Edge.promise(43, "STUCK: no such CELL, a WALL.").refuses(STUCK, x -> x.step(0, 0))
            .refuses(STUCK, x -> x.step(0, 2)).refuses(STUCK, x -> x.step(1, 1))
            .with("person 7").refuses(STUCK, x -> x.step(0, 0)).refuses(STUCK, x -> x.step(0, 3))
            .is(15, x -> x.step(0, 1)).is(6, x -> x.step(0, 2))
            .with("person 56").refuses(STUCK, x -> x.step(0, 1)).refuses(STUCK, x -> x.step(0, 2))
            .is(48, x -> x.step(0, 0)).is(57, x -> x.step(0, 3))
            .with("person 63").refuses(STUCK, x -> x.step(0, 1)).refuses(STUCK, x -> x.step(0, 3))
            .is(55, x -> x.step(0, 0)).is(62, x -> x.step(0, 2))
            .with("person 8").refuses(STUCK, x -> x.step(0, 2)).with("person 15").refuses(STUCK, x -> x.step(0, 3))
            .with("person 3").refuses(STUCK, x -> x.step(0, 0))
            .with("person 60").refuses(STUCK, x -> x.step(0, 1))
            .with("person 9;wall 1;wall 8;wall 10;wall 17").refuses(STUCK, x -> x.step(0, 0))
            .refuses(STUCK, x -> x.step(0, 1)).refuses(STUCK, x -> x.step(0, 2)).refuses(STUCK, x -> x.step(0, 3));
    }

    private static void promise44() {
        Edge.promise(44, "x pays y so many COINS (1 to 999) in truth: how many he OWES him still.")
            .is(4, x -> x.pay(0, 1, 1)).is(0, x -> x.pay(0, 1, 5)).is(4, x -> Edge.last(x.pay(0, 1, 1), x.debt(0, 1)))
            .is(2, x -> Edge.last(x.pay(0, 1, 5), x.debt(1, 0))).with("person 0;person 0;owes 0 1 999")
            .is(0, x -> x.pay(0, 1, 999)).is(998, x -> x.pay(0, 1, 1)).is(1, x -> x.pay(0, 1, 998));
        Edge.promise(44, "BAD: also the same;").refuses(BAD, x -> x.pay(0, 0, 1)).refuses(BAD, x -> x.pay(2, 2, 999))
            .outside(0, 2, (x, p) -> x.pay(p, 0, 1)).outside(0, 2, (x, p) -> x.pay(0, p, 1))
            .outside(1, 999, (x, n) -> x.pay(0, 1, n)).outside(1, 999, (x, n) -> x.pay(0, 2, n))
            .outside(0, 2, (x, p) -> x.pay(p, p, 1)).empty().refuses(BAD, x -> x.pay(0, 1, 1));
        Edge.promise(44, "STUCK: he OWES fewer.").refuses(STUCK, x -> x.pay(0, 1, 6))
            .refuses(STUCK, x -> x.pay(0, 2, 1)).refuses(STUCK, x -> x.pay(0, 1, 999))
            .refuses(STUCK, x -> x.pay(1, 0, 3))
            .with("person 0;person 0;owes 0 1 998").refuses(STUCK, x -> x.pay(0, 1, 999))
            .refuses(STUCK, x -> x.pay(1, 0, 1)).answers(STUCK, x -> Edge.last(x.pay(0, 1, 998), x.pay(0, 1, 1)));
    }

    private static void promise45() {
        Edge.promise(45, "All MUTUAL DEBTS are struck out (both less by the lesser): how many COINS in all, as MUTUAL has them.")
            .is(2, x -> x.strike()).is(3, x -> Edge.last(x.strike(), x.debt(0, 1)))
            .is(0, x -> Edge.last(x.strike(), x.debt(1, 0))).is(7, x -> Edge.last(x.strike(), x.debt(1, 2)))
            .is(9, x -> Edge.last(x.strike(), x.debt(2, 0))).is(0, x -> Edge.last(x.strike(), x.strike()))
            .is(0, x -> Edge.last(x.strike(), x.mutual())).empty().asks(0, x -> x.strike())
            .with("person 0;person 0;owes 0 1 999").asks(0, x -> x.strike())
            .with("person 0;person 0;owes 0 1 999;owes 1 0 999").is(999, x -> x.strike())
            .is(0, x -> Edge.last(x.strike(), x.status(3)))
            .with(x -> {
                Edge.read(x, EIGHT);
                for (int i = 0; i < 56; i++) {
                    x.owes(i / 7, (i / 7 + i % 7 + 1) % 8, 999);
                }
            }).is(28 * 999, x -> x.strike()).is(0, x -> Edge.last(x.strike(), x.status(3)));
    }

    private static void promise46() {
        String shut = "person 0;person 0;owes 0 1 1;seed 0 0 0 1;seed 4 0 0 0;wall 1;wall 8";
        Edge.promise(46, "n steps (1 to 99) by draws: all SEEDS UP together.").with(shut).is(2, x -> x.days(1))
            .is(4, x -> x.days(2)).is(198, x -> x.days(99)).is(2, x -> Edge.last(x.days(99), x.days(1)))
            .with("person 63").is(0, x -> x.days(99)).with(x -> {
                Edge.read(x, EIGHT + ";owes 7 0 1;wall 1;wall 8");
                for (int i = 0; i < 16; i++) {
                    x.sow(0, 0, 0, 0);
                }
            }).is(16 * 99, x -> x.days(99));
        Edge.promise(46, "BAD;").outside(1, 99, (x, n) -> x.days(n)).empty().outside(1, 99, (x, n) -> x.days(n));
        Edge.promise(46, "STUCK: nobody.").empty().refuses(STUCK, x -> x.days(1)).refuses(STUCK, x -> x.days(99))
            .is(1, x -> x.seed(3));
    }

    private static void promise47() {
        Edge.promise(47, "The last SEED is taken out: how many are left.").is(2, x -> x.weed())
            .is(1, x -> Edge.last(x.weed(), x.weed())).is(0, x -> Edge.last(x.weed(), x.weed(), x.weed()))
            .is(1, x -> Edge.last(x.weed(), x.up(NONE)))
            .is(2, x -> Edge.last(x.weed(), x.sow(5, 1, 1, 1)))
            .is(5, x -> Edge.last(x.weed(), x.sow(5, 1, 1, 1), x.seedOf(2, 0)))
            .is(3, x -> Edge.last(x.weed(), x.seedOf(1, 0)))
            .is(11, x -> Edge.last(x.weed(), x.holds(2))).is(NONE, x -> Edge.last(x.weed(), x.weed(), x.holds(2)))
            .is(6, x -> Edge.last(x.weed(), x.weed(), x.status(8) + 1))
            .answers(BAD, x -> Edge.last(x.weed(), x.seedOf(2, 0))).answers(BAD, x -> Edge.last(x.weed(), x.by(2)))
            .with(x -> {
                x.person(0);
                for (int i = 0; i < 16; i++) {
                    x.sow(0, 0, 0, 0);
                }
            }).is(15, x -> x.weed());
        // Nothing that is asked afterwards goes by the one that was taken out.
        Edge.promise(47, "The last SEED is taken out: how many are left.")
            .with("person 0;person 63;owes 0 1 5;wall 10;seed 0 0 9 1").is(0, x -> Edge.last(x.weed(), x.up(NONE)))
            .is(0, x -> Edge.last(x.weed(), x.up(0))).is(1, x -> Edge.last(x.weed(), x.quiet(0, 1)))
            .is(0, x -> Edge.last(x.weed(), x.due(0, 1))).is(0, x -> Edge.last(x.weed(), x.bare()))
            .is(0, x -> Edge.last(x.weed(), x.loud(0))).is(63, x -> Edge.last(x.weed(), x.reach(0)))
            .is(1, x -> Edge.last(x.weed(), x.guess(0, 1, 0))).is(0, x -> Edge.last(x.weed(), x.guess(0, 1, 1)))
            .is(0, x -> Edge.last(x.weed(), x.idle())).is(0, x -> Edge.last(x.weed(), x.personOf(1, 3)))
            .is(0, x -> Edge.last(x.weed(), x.personOf(0, 4))).is(0, x -> Edge.last(x.weed(), x.status(4)))
            .is(0, x -> Edge.last(x.weed(), x.days(9))).is(63, x -> Edge.last(x.weed(), x.calm()));
        Edge.promise(47, "STUCK: there is none.").empty().refuses(STUCK, x -> x.weed()).with("person 0")
            .refuses(STUCK, x -> x.weed()).with("person 0;seed 0 0 0 0").is(0, x -> x.weed())
            .answers(STUCK, x -> Edge.last(x.weed(), x.weed()));
    }

    private static void promise48() {
        Edge.promise(48, "SEEDNESS becomes v: the one ahead.").is(77, x -> x.seed(0))
            .is(0, x -> Edge.last(x.seed(0), x.status(7))).is(LEAST, x -> Edge.last(x.seed(LEAST), x.status(7)))
            .is(GREATEST, x -> Edge.last(x.seed(GREATEST), x.seed(5)))
            .is(LEAST, x -> Edge.last(x.seed(LEAST), x.seed(5))).is(-1, x -> Edge.last(x.seed(-1), x.status(7)))
            .asks(77, x -> x.seed(77)).empty().is(1, x -> x.seed(-1));
    }

    private static void promise49() {
        Edge.promise(49, "All is kept, but THE TAPE, SHELVES and REFUSALS: 1.").is(1, x -> x.image()).empty()
            .is(1, x -> x.image()).is(1, x -> Edge.last(x.image(), x.image()))
            .is(1, x -> Edge.last(x.image(), x.back()))
            .is(0, x -> Edge.last(x.image(), x.person(0), x.back(), x.status(0)))
            .with(Edge::furnish)
            // The tape, rows and counts are what they were when all came back, not when it was kept.
            .is(7, x -> Edge.last(x.image(), x.feed('0'), x.back(), x.status(6)))
            .is(0, x -> Edge.last(x.image(), x.wipe(), x.back(), x.status(6)))
            .is(9, x -> Edge.last(x.image(), x.set(0, 0, 9), x.back(), x.element(0, 0)))
            .is(NONE, x -> Edge.last(x.image(), x.show(0, NONE), x.back(), x.holds(0)))
            .is(2, x -> Edge.last(x.image(), x.row(6, 2, 1), x.back(), x.holds(6)))
            .answers(1, x -> Edge.last(x.image(), x.up(9), x.back(), x.status(12)))
            .answers(1, x -> Edge.last(x.up(9), x.image(), x.back(), x.status(12)))
            // What changes afterwards is not in the image, and what was kept ahead of it is gone.
            .is(5, x -> Edge.last(x.image(), x.owes(0, 1, 6), x.back(), x.debt(0, 1)))
            .is(6, x -> Edge.last(x.owes(0, 1, 6), x.image(), x.back(), x.debt(0, 1)))
            .is(3, x -> Edge.last(x.image(), x.weed(), x.back(), x.status(1)));
    }

    private static void promise50() {
        Edge.promise(50, "All is again as it was kept (SHELVES with SEEDS hold those of the same numbers, or NOTHING): 1.")
            .is(1, x -> x.back()).is(1, x -> Edge.last(x.back(), x.back()))
            .is(3, x -> Edge.last(x.back(), x.status(0))).is(2, x -> Edge.last(x.back(), x.status(1)))
            .is(0, x -> Edge.last(x.back(), x.status(2))).is(12, x -> Edge.last(x.back(), x.status(3)))
            .is(1, x -> Edge.last(x.back(), x.status(7))).is(63, x -> Edge.last(x.back(), x.personOf(1, 0)))
            .is(0, x -> Edge.last(x.back(), x.debt(2, 0))).is(0, x -> Edge.last(x.back(), x.isWall(20)))
            .is(11, x -> Edge.last(x.back(), x.holds(2))).is(0, x -> Edge.last(x.back(), x.holds(0)))
            // Seed 2 wasn't there; seed 1 was another one for a while, and was gone for a while.
            .is(NONE, x -> Edge.last(x.show(6, 2), x.back(), x.holds(6)))
            .is(10, x -> Edge.last(x.show(6, 0), x.back(), x.holds(6)))
            .is(11, x -> Edge.last(x.weed(), x.weed(), x.sow(5, 9, 5, 2), x.show(6, 1), x.back(), x.holds(6)))
            .is(3, x -> Edge.last(x.weed(), x.weed(), x.sow(5, 9, 5, 2), x.show(6, 1), x.back(), x.seedOf(1, 0)))
            .is(20, x -> Edge.last(x.weed(), x.weed(), x.sow(5, 9, 5, 2), x.show(6, 1), x.back(), x.says(6, 3)))
            .is(5, x -> Edge.last(x.show(6, 2), x.back(), x.status(8) - 1))
            .is(2, x -> Edge.last(x.back(), x.weed(), x.back(), x.status(1)))
            .is(0, x -> Edge.last(x.back(), x.step(1, 0), x.back(), x.personOf(1, 0) - 63))
            .with(x -> {
                x.image();
                Edge.read(x, EIGHT + ";seed 0 0 0 0");
                x.show(0, 0);
                x.show(7, 0);
                x.row(3, 0, 0);
            }).is(0, x -> Edge.last(x.back(), x.status(0))).is(1, x -> Edge.last(x.back(), x.status(8)))
            .is(NONE, x -> Edge.last(x.back(), x.holds(7))).is(0, x -> Edge.last(x.back(), x.person(63)));
    }

    private static void promise50Refused() {
        Edge.promise(50, "STUCK: nothing was.").empty().refuses(STUCK, x -> x.back()).with("person 0;wall 5")
            .refuses(STUCK, x -> x.back()).is(1, x -> Edge.last(x.image(), x.back()))
            .answers(STUCK, x -> Edge.last(x.back(), x.back()));
    }

    private static void promise51() {
        Edge e = Edge.promise(51, "PEOPLE (0), SEEDS (1), WALLS (2), all DEBTS together (3), SEEDS that are UP (4), PEOPLE who OWE anybody (5), THE TAPE's size (6), SEEDNESS (7), SHELVES that hold something (8);");
        e.with("person 0;person 0;person 0;owes 0 1 1;owes 0 2 1").asks(1, x -> x.status(5))
            .with("person 0;person 0;person 0;owes 1 0 1;owes 2 0 1").asks(2, x -> x.status(5));
        int[] due = {3, 3, 2, 23, 2, 3, 6, 77, 6};
        int[] none = {0, 0, 0, 0, 0, 0, 0, 1, 0};
        for (int i = 0; i < due.length; i++) {
            int what = i;
            e.with(Edge::furnish).asks(due[i], x -> x.status(what)).empty().asks(none[i], x -> x.status(what));
        }
        e.with(x -> {
            Edge.read(x, EIGHT + ";wall 63");
            for (int i = 0; i < 56; i++) {
                x.owes(i / 7, (i / 7 + i % 7 + 1) % 8, 999);
            }
            for (int i = 0; i < 16; i++) {
                x.sow(0, 0, 0, i % 8);
            }
            for (int s = 0; s < 8; s++) {
                x.row(s, s % 5, 0);
            }
        }).asks(8, x -> x.status(0)).asks(16, x -> x.status(1)).asks(1, x -> x.status(2))
        .asks(56 * 999, x -> x.status(3)).asks(16, x -> x.status(4)).asks(8, x -> x.status(5)).asks(8, x -> x.status(8))
            .with(x -> Edge.feed(x, " ".repeat(250))).asks(250, x -> x.status(6)).with(x -> x.seed(-1))
            .asks(-1, x -> x.status(7));
        Edge another = Edge.promise(51, "NONE another what.");
        for (int what : new int[] {-1, 9, 10, 11, 17, 18, 100, LEAST, GREATEST}) {
            another.asks(NONE, x -> x.status(what));
        }
    }

    private static void promise51Refusals() {
        Edge.promise(51, "12 to 16: REFUSALS -2 to -6.").asks(0, x -> x.status(12)).asks(0, x -> x.status(13))
            .asks(0, x -> x.status(14)).asks(0, x -> x.status(15)).asks(0, x -> x.status(16))
            .answers(1, x -> Edge.last(x.up(9), x.status(12)))
            .answers(2, x -> Edge.last(x.up(9), x.net(9), x.status(12)))
            .answers(1, x -> Edge.last(Edge.read(x, "x"), x.status(12)))
            .answers(1, x -> Edge.last(x.set(2, 0, 0), x.status(13)))
            .answers(1, x -> Edge.last(x.set(6, 0, 0), x.status(14)))
            .answers(1, x -> Edge.last(x.step(0, 0), x.status(15)))
            .answers(0, x -> Edge.last(x.step(0, 0), x.status(12) + x.status(13) + x.status(14) + x.status(16)))
            .with(EIGHT).answers(1, x -> Edge.last(x.person(0), x.status(16)))
            .answers(2, x -> Edge.last(x.person(0), x.person(0), x.status(16)))
            .answers(0, x -> Edge.last(x.person(0), x.status(15)));
    }
}
