import java.util.List;
import java.util.function.ToLongFunction;

/** The edges that the document names in its terms 3 (what comes of it, shelves) and in its refusals. */
final class EdgesOfOutcomes {
    private static final int NONE = Edge.NONE;
    private static final int BAD = Edge.BAD;
    private static final int OTHER = Edge.OTHER;
    private static final int NOTHING = Edge.NOTHING;
    private static final int STUCK = Edge.STUCK;
    private static final int FULL = Edge.FULL;
    private static final String EIGHT = "person 0;person 0;person 0;person 0;person 0;person 0;person 0;person 0";

    static void all() {
        nothingChanged();
        ways();
        bars();
        dues();
        sums();
        rings();
        guesses();
        tells();
        walks();
        truth();
        draws();
        shelves();
        refusals();
        firstThatFits();
    }

    private static void nothingChanged() {
        List<ToLongFunction<NextToItsDebtor>> asked = List.of(
            x -> x.quiet(0, 5), x -> x.way(0, 7, NONE), x -> x.way(0, 7, 0), x -> x.bar(0, 7), x -> x.reach(0), x -> x.loud(0),
            x -> x.together(0), x -> x.calm(), x -> x.idle(), x -> x.worst(), x -> x.chain(0, 2), x -> x.poorest(),
            x -> x.due(0, 1), x -> x.bare(), x -> x.net(0), x -> x.mutual(), x -> x.ring(NONE), x -> x.ring(0),
            x -> x.guess(0, 1, 0), x -> x.guess(0, 1, 1), x -> x.tells(0, 3, NONE), x -> x.judge(0, 0, 1), x -> x.seen(0, 0, 1));
        int[] due = {1, NONE, NONE, 1, 1, 21, 5, 41, 2, 0, 2, 1, 5, NONE, 6, 2, 3, 0, 1, 1, 1, NONE, 0};
        Edge e = Edge.terms(3, "(nothing is changed)");
        for (int i = 0; i < due.length; i++) {
            e.asks(due[i], asked.get(i));
        }
    }

    private static void ways() {
        Edge.terms(3, "QUIET for one of the PEOPLE: a CELL that is no WALL, on which by him alone no SEED would be UP.")
            .with("person 54;person 1;person 0;owes 0 1 1;seed 0 0 63 1;wall 40").asks(0, x -> x.quiet(1, 40))
            .asks(0, x -> x.quiet(0, 40))
            .asks(1, x -> x.quiet(2, 63)).asks(0, x -> x.quiet(0, 63)).asks(0, x -> x.quiet(0, 54))
            .asks(1, x -> x.quiet(0, 53))
            .asks(1, x -> x.quiet(0, 61)).asks(0, x -> x.quiet(0, 55)).asks(1, x -> x.quiet(0, 47));
        Edge.terms(3, "WAY of him to a CELL: the fewest steps (to a CELL beside: up, down, left, right) from where he is over QUIET CELLS (where he is needn't be), to it; NONE.")
            .with("person 0").asks(14, x -> x.way(0, 63, NONE)).asks(1, x -> x.way(0, 8, NONE))
            .asks(2, x -> x.way(0, 9, NONE))
            .with("person 0;wall 1;wall 8").asks(NONE, x -> x.way(0, 9, NONE)).asks(NONE, x -> x.way(0, 63, NONE))
            .asks(NONE, x -> x.way(0, 56, NONE))
            .with("person 7;wall 6;wall 15").asks(NONE, x -> x.way(0, 8, NONE)).asks(NONE, x -> x.way(0, 16, NONE))
            .with("person 56;wall 48;wall 57").asks(NONE, x -> x.way(0, 55, NONE)).asks(NONE, x -> x.way(0, 0, NONE))
            .with("person 0;person 63;owes 0 1 1;seed 1 0 0 1").asks(1, x -> x.way(0, 1, NONE))
            .asks(0, x -> x.way(0, 0, NONE))
            .with("person 0;person 63;owes 0 1 1;seed 0 0 0 1").asks(NONE, x -> x.way(0, 2, NONE))
            .asks(NONE, x -> x.way(0, 1, NONE))
            .with("person 0;person 63;owes 0 1 1;seed 1 0 1 1").asks(NONE, x -> x.way(0, 1, NONE))
            .asks(4, x -> x.way(0, 2, NONE))
            .with("person 0;wall 1").asks(NONE, x -> x.way(0, 1, NONE))
            // The longest that there can be about such walls.
            .with(x -> {
                x.person(0);
                for (int row = 1; row < 8; row += 2) {
                    for (int column = 0; column < 7; column++) {
                        x.wall(8 * row + (row % 4 == 1 ? column : column + 1), true);
                    }
                }
            }).asks(35, x -> x.way(0, 56, NONE)).asks(56, x -> x.way(0, 56, 34)).refuses(STUCK, x -> x.way(0, 56, 35));
        Edge.terms(3, "The CELLS of it: of all such WAYS the first (by rows of CELLS).")
            .with("person 0").asks(1, x -> x.way(0, 63, 0)).asks(7, x -> x.way(0, 63, 6)).asks(15, x -> x.way(0, 63, 7))
            .asks(63, x -> x.way(0, 63, 13))
            .with("person 63").asks(55, x -> x.way(0, 0, 0)).asks(7, x -> x.way(0, 0, 6)).asks(6, x -> x.way(0, 0, 7))
            .asks(0, x -> x.way(0, 0, 13))
            .with("person 7").asks(6, x -> x.way(0, 56, 0)).asks(0, x -> x.way(0, 56, 6)).asks(8, x -> x.way(0, 56, 7))
            .with("person 56").asks(48, x -> x.way(0, 7, 0)).asks(0, x -> x.way(0, 7, 6)).asks(1, x -> x.way(0, 7, 7));
    }

    private static void bars() {
        Edge.terms(3, "BAR: if there is no WAY, the first of the PEOPLE without whose SEEDS there would be one; NONE.")
            .with("person 0;person 63;person 62;owes 0 1 1;owes 0 2 1;seed 1 0 9 2;seed 1 0 9 1")
            .asks(NONE, x -> x.bar(0, 9))
            .with("person 0;person 63;person 62;owes 0 1 1;owes 0 2 1;seed 1 0 9 2").asks(2, x -> x.bar(0, 9))
            .asks(NONE, x -> x.bar(0, 10)).asks(NONE, x -> x.bar(0, 0))
            .with("person 0;wall 9").asks(NONE, x -> x.bar(0, 9))
            .with("person 0;person 63;owes 0 1 1;seed 4 0 9 0").asks(0, x -> x.bar(0, 9)).asks(NONE, x -> x.bar(1, 9))
            // Either gate would do; the first is by the number of the creditor, not of the cell.
            .with("person 0;person 63;person 62;owes 0 1 1;owes 0 2 1;wall 9;seed 1 0 1 2;seed 1 0 8 1")
            .asks(1, x -> x.bar(0, 63))
            .with(EIGHT + ";owes 0 7 1;seed 1 0 63 7").asks(7, x -> x.bar(0, 63));
    }

    private static void dues() {
        Edge.terms(3, "DUE of one of the PEOPLE to another: how many COINS at least he has to pay him so that no SEED of his, of KINDS 0 to 3 and 5, is UP BY him where he is (0: none is).")
            .with("person 9;person 63;owes 0 1 999;seed 0 0 18 1").asks(999, x -> x.due(0, 1)).asks(0, x -> x.due(1, 0))
            .with("person 9;person 63;owes 0 1 999;seed 0 0 27 1").asks(0, x -> x.due(0, 1))
            .with("person 9;person 63;owes 0 1 1;seed 1 0 9 1").asks(1, x -> x.due(0, 1))
            .with("person 9;person 63;owes 0 1 0;seed 1 0 9 1").asks(0, x -> x.due(0, 1))
            .with("person 9;person 63;owes 0 1 999;seed 2 0 27 1").asks(999, x -> x.due(0, 1))
            .with("person 9;person 63;owes 0 1 90;seed 3 9 9 1").asks(1, x -> x.due(0, 1))
            .with("person 9;person 63;owes 0 1 89;seed 3 9 9 1").asks(0, x -> x.due(0, 1))
            .with("person 9;person 63;owes 0 1 90;seed 3 0 9 1").asks(90, x -> x.due(0, 1))
            .with("person 9;person 63;owes 0 1 9;seed 5 9 9 1").asks(1, x -> x.due(0, 1))
            .with("person 9;person 63;owes 0 1 8;seed 5 9 9 1").asks(0, x -> x.due(0, 1))
            .with("person 9;person 63;owes 0 1 8;seed 5 0 9 1").asks(8, x -> x.due(0, 1))
            .with("person 9;person 63;owes 0 1 999;seed 4 0 9 1").asks(0, x -> x.due(0, 1));
        Edge.terms(3, "BARE: all DUE together, if then no SEED is UP (RANK ones, too); NONE else.")
            .empty().asks(0, x -> x.bare())
            .with("person 9;person 63;owes 0 1 5;seed 0 0 9 1").asks(5, x -> x.bare())
            .with("person 9;person 63;owes 0 1 5;seed 5 5 9 1").asks(1, x -> x.bare())
            .with("person 9;person 63;owes 0 1 5;seed 0 0 9 1;seed 4 0 9 1").asks(5, x -> x.bare())
            .with("person 9;person 63;owes 0 1 5;seed 5 2 9 1;seed 4 0 9 1").asks(NONE, x -> x.bare())
            .with("person 9;person 63;owes 0 1 5;seed 5 2 9 1;seed 4 0 12 1").asks(4, x -> x.bare())
            .with("person 9;person 63;owes 0 1 5;seed 4 0 27 0").asks(NONE, x -> x.bare())
            .with("person 9;person 63;owes 0 1 5;seed 4 0 36 0").asks(0, x -> x.bare())
            .with(x -> {
                Edge.read(x, EIGHT + ";seed 0 0 0 0;seed 0 0 0 7;seed 4 0 0 7");
                for (int p = 0; p < 7; p++) {
                    x.owes(p, 7, 999);
                    x.owes(7 - p, 0, 999);
                }
            }).asks(14 * 999, x -> x.bare());
    }

    private static void sums() {
        Edge.terms(3, "NET of one of the PEOPLE: all that others OWE him less all that he OWES.").with(EIGHT)
            .asks(0, x -> x.net(0)).asks(0, x -> x.net(7))
            .with(x -> {
                Edge.read(x, EIGHT);
                for (int p = 0; p < 7; p++) {
                    x.owes(7, p, 999);
                }
            }).asks(-6993, x -> x.net(7)).asks(999, x -> x.net(0))
            .with(x -> {
                Edge.read(x, EIGHT);
                for (int p = 0; p < 7; p++) {
                    x.owes(p, 7, 999);
                }
            }).asks(6993, x -> x.net(7)).asks(-999, x -> x.net(6));
        Edge.terms(3, "MUTUAL: the sum over all pairs of the lesser of what each OWES the other.")
            .empty().asks(0, x -> x.mutual())
            .with("person 0").asks(0, x -> x.mutual())
            .with("person 0;person 0;owes 0 1 999").asks(0, x -> x.mutual())
            .with("person 0;person 0;owes 0 1 999;owes 1 0 1").asks(1, x -> x.mutual())
            .with("person 0;person 0;owes 0 1 7;owes 1 0 7").asks(7, x -> x.mutual())
            .with(x -> {
                Edge.read(x, EIGHT);
                for (int p = 0; p < 56; p++) {
                    x.owes(p / 7, (p / 7 + p % 7 + 1) % 8, 999);
                }
            }).asks(28 * 999, x -> x.mutual());
    }

    private static void rings() {
        Edge.terms(3, "RING: the fewest PEOPLE (3 at least), each of whom OWES the next 1 at least, the last the first; the first such row (by rows of numbers, beginning with its least); NONE.")
            .empty().asks(NONE, x -> x.ring(NONE))
            .with("person 0;person 0;owes 0 1 999;owes 1 0 999").asks(NONE, x -> x.ring(NONE))
            .with("person 0;person 0;person 0;owes 0 1 1;owes 1 2 1").asks(NONE, x -> x.ring(NONE))
            .with("person 0;person 0;person 0;owes 0 1 1;owes 1 2 1;owes 2 0 1").asks(3, x -> x.ring(NONE))
            .asks(0, x -> x.ring(0)).asks(2, x -> x.ring(2))
            .with("person 0;person 0;person 0;owes 0 2 1;owes 2 1 1;owes 1 0 1").asks(2, x -> x.ring(1))
            .asks(1, x -> x.ring(2))
            .with("person 0;person 0;person 0;owes 0 1 1;owes 1 2 1;owes 2 0 1;owes 0 2 1;owes 2 1 1;owes 1 0 1")
            .asks(1, x -> x.ring(1)).asks(2, x -> x.ring(2))
            // Two and two about one of them are no ring of four, whoever of them it is.
            .with("person 0;person 0;person 0;owes 0 1 1;owes 1 0 1;owes 0 2 1;owes 2 0 1")
            .asks(NONE, x -> x.ring(NONE))
            .with("person 0;person 0;person 0;owes 0 1 1;owes 1 0 1;owes 1 2 1;owes 2 1 1")
            .asks(NONE, x -> x.ring(NONE))
            .with("person 0;person 0;person 0;owes 0 2 1;owes 2 0 1;owes 1 2 1;owes 2 1 1")
            .asks(NONE, x -> x.ring(NONE))
            .with(x -> {
                Edge.read(x, EIGHT);
                for (int p = 0; p < 8; p++) {
                    x.owes(p, (p + 1) % 8, 1);
                }
            }).asks(8, x -> x.ring(NONE)).asks(0, x -> x.ring(0)).asks(7, x -> x.ring(7)).refuses(STUCK, x -> x.ring(8))
            .with(x -> {
                Edge.read(x, EIGHT);
                for (int p = 0; p < 8; p++) {
                    x.owes(p, (p + 1) % 8, 1);
                }
                x.owes(7, 5, 1);
            }).asks(3, x -> x.ring(NONE)).asks(5, x -> x.ring(0)).asks(6, x -> x.ring(1)).asks(7, x -> x.ring(2))
            .refuses(STUCK, x -> x.ring(3));
    }

    private static void guesses() {
        Edge.terms(3, "MAY of x to y: by what is UP now: 0, if some SEED of CREDITOR y (no RANK, PROUD, LATE one) of whose REACH x is isn't UP; else 1.")
            .with("person 9;person 63").asks(1, x -> x.guess(0, 1, 0))
            .with("person 9;person 63;seed 0 0 18 1").asks(0, x -> x.guess(0, 1, 0)).asks(1, x -> x.guess(1, 0, 0))
            .with("person 9;person 63;seed 0 0 27 1").asks(1, x -> x.guess(0, 1, 0))
            .with("person 9;person 63;seed 1 0 9 1").asks(0, x -> x.guess(0, 1, 0))
            .with("person 9;person 63;seed 1 0 10 1").asks(1, x -> x.guess(0, 1, 0))
            .with("person 9;person 63;seed 2 0 27 1").asks(0, x -> x.guess(0, 1, 0))
            .with("person 9;person 63;seed 2 0 36 1").asks(1, x -> x.guess(0, 1, 0))
            .with("person 9;person 63;seed 3 0 9 1;seed 4 0 9 1;seed 5 0 9 1;seed 0 0 9 0")
            .asks(1, x -> x.guess(0, 1, 0))
            .with("person 9;person 63;owes 0 1 1;seed 0 0 18 1").asks(1, x -> x.guess(0, 1, 0))
            .with("person 9;person 63;owes 0 1 1;seed 3 9 9 1;seed 5 9 9 1;seed 0 0 18 1")
            .asks(1, x -> x.guess(0, 1, 0));
        Edge.terms(3, "SURE: 1, if some such one is UP of whose REACH x is and nobody else (y aside); else 0.")
            .with("person 9;person 63;owes 0 1 1").asks(0, x -> x.guess(0, 1, 1))
            .with("person 9;person 63;owes 0 1 1;seed 0 0 18 1").asks(1, x -> x.guess(0, 1, 1))
            .with("person 9;person 63;owes 0 1 1;seed 0 0 27 1").asks(0, x -> x.guess(0, 1, 1))
            .with("person 9;person 63;owes 0 1 0;seed 0 0 18 1").asks(0, x -> x.guess(0, 1, 1))
            .with("person 9;person 18;owes 0 1 1;seed 0 0 18 1").asks(1, x -> x.guess(0, 1, 1))
            .with("person 9;person 63;person 27;owes 0 1 1;seed 0 0 18 1").asks(0, x -> x.guess(0, 1, 1))
            .with("person 9;person 63;person 36;owes 0 1 1;seed 0 0 18 1").asks(1, x -> x.guess(0, 1, 1))
            .with("person 9;person 63;person 27;owes 0 1 1;seed 0 0 18 1;seed 1 0 9 1").asks(1, x -> x.guess(0, 1, 1))
            .with("person 9;person 63;owes 0 1 999;seed 3 0 9 1;seed 4 0 9 1;seed 5 0 9 1")
            .asks(0, x -> x.guess(0, 1, 1));
        Edge.terms(3, "(By what is UP alone, not by DEBTS.)")
            .with("person 9;person 63;person 27;owes 2 1 1;seed 0 0 18 1").asks(1, x -> x.guess(0, 1, 0))
            .asks(0, x -> x.guess(0, 1, 1))
            .with("person 9;person 63;owes 0 1 999;seed 0 0 27 1;seed 0 0 36 1").asks(1, x -> x.guess(0, 1, 0))
            .asks(0, x -> x.guess(0, 1, 1));
    }

    private static void told(Edge e, int[] cells, int... set) {
        e.with(x -> {
            x.row(0, 2, cells.length);
            for (int i = 0; i < cells.length; i++) {
                x.set(0, i, cells[i]);
            }
        }).asks(set.length, x -> x.tells(0, cells.length, NONE))
        .refuses(STUCK, x -> x.tells(0, cells.length, set.length));
        for (int i = 0; i < set.length; i++) {
            int at = i;
            e.asks(set[at], x -> x.tells(0, cells.length, at));
        }
    }

    private static void tells() {
        Edge e = Edge.terms(3, "TELLS: a told ROW of CELLS: the fewest SEEDS (of KIND 0, 3 at most) on any CELLS so that of each told one a SEED is no farther than 1; the first set (by rows of CELLS, each greater than the one ahead); NONE.");
        told(e, new int[] {});
        told(e, new int[] {0}, 0);
        told(e, new int[] {63}, 54);
        told(e, new int[] {7}, 6);
        told(e, new int[] {56}, 48);
        told(e, new int[] {27, 27, 27, 27, 27, 27, 27, 27, 27, 27}, 18);
        told(e, new int[] {0, 18}, 9);
        told(e, new int[] {0, 27}, 0, 18);
        told(e, new int[] {7, 8}, 0, 6);
        told(e, new int[] {63, 0, 32}, 0, 24, 54);
        told(e, new int[] {0, 1, 2, 8, 9, 10, 16, 17, 18}, 9);
        told(e, new int[] {61, 62, 63, 53, 54, 55, 45, 46, 47}, 54);
        int[][] tooMany = {{0, 7, 56, 63}, {0, 3, 6, 24}, {0, 18, 36, 54, 63, 7, 56}, {0, 3, 6, 25, 28, 31, 48, 51, 54, 63}};
        for (int[] cells : tooMany) {
            e.with(x -> {
                x.row(0, 2, cells.length);
                for (int i = 0; i < cells.length; i++) {
                    x.set(0, i, cells[i]);
                }
            }).asks(NONE, x -> x.tells(0, cells.length, NONE)).asks(NONE, x -> x.tells(0, cells.length, 0))
            .asks(NONE, x -> x.tells(0, cells.length, 3));
        }
    }

    private static void walks() {
        Edge e = Edge.terms(3, "A told WALK of one of the PEOPLE: a ROW of CELLS: WRONG: the first that isn't beside the one ahead (the first: where he is), or is a WALL; NONE.");
        long[][] rows = {{}, {1}, {8}, {0}, {9}, {63}, {-1}, {64}, {1, 2}, {1, 0}, {1, 9}, {1, 1}, {8, 7}, {1, 2, 3}, {8, 16}, {1L << 32 | 1}};
        int[] due = {NONE, NONE, NONE, 0, 0, 0, 0, 0, NONE, NONE, NONE, 1, 1, 2, NONE, 0};
        for (int i = 0; i < rows.length; i++) {
            long[] row = rows[i];
            e.with(x -> {
                Edge.read(x, "person 0;wall 3;wall 7");
                Edge.row(x, 0, 3, row);
            }).asks(due[i], x -> x.judge(0, 0, row.length));
        }
        // The ends of rows, and of the garden: as near as can be by numbers, yet not beside.
        int[][] ends = {{7, 8}, {8, 7}, {15, 16}, {56, 55}, {0, -1}, {63, 64}, {7, -1}, {56, 64}, {0, 56}, {63, 7}, {0, 0}, {63, 63}, {0, 63}, {63, 0}};
        for (int[] end : ends) {
            e.with(x -> {
                x.person(end[0]);
                Edge.row(x, 0, 3, end[1]);
            }).asks(0, x -> x.judge(0, 0, 1)).asks(NONE, x -> x.judge(0, 0, 0));
        }
        e.with(x -> {
            x.person(0);
            x.row(0, 0, 40);
            for (int i = 0; i < 39; i += 2) {
                x.set(0, i, 1);
            }
        }).asks(NONE, x -> x.judge(0, 0, 40)).is(39, x -> Edge.last(x.set(0, 39, 1), x.judge(0, 0, 40)));
        Edge.terms(3, "SEEN: the first CELL of it (its place in the ROW) on which some SEED is UP by him; NONE.")
            .with(x -> {
                Edge.read(x, "person 0;person 63;owes 0 1 1;seed 1 0 0 1;seed 1 0 3 1;seed 1 0 4 1;seed 1 0 1 0");
                Edge.row(x, 0, 0, 1, 2, 3, 4);
            }).asks(2, x -> x.seen(0, 0, 4)).asks(2, x -> x.seen(0, 0, 3)).asks(NONE, x -> x.seen(0, 0, 2))
            .asks(NONE, x -> x.seen(0, 0, 0))
            .with(x -> {
                Edge.read(x, "person 0;person 63;owes 0 1 1;seed 1 0 1 1");
                Edge.row(x, 0, 0, 1, 0);
            }).asks(0, x -> x.seen(0, 0, 2));
    }

    private static void truth() {
        Edge.terms(3, "IN TRUTH: to go, to pay, to owe.")
            .is(1, x -> Edge.last(x.step(0, 3), x.personOf(0, 0)))
            .is(4, x -> Edge.last(x.pay(0, 1, 1), x.debt(0, 1)))
            .is(998, x -> Edge.last(x.owes(0, 2, 998), x.debt(0, 2)))
            .is(1, x -> Edge.last(x.walk(0, 0, 1), x.personOf(0, 0)));
        Edge day = Edge.terms(3, "A DAY by draws, n steps: one of the PEOPLE, a DRAW below how many there are; a way, a DRAW below 4 (0 up, 1 down, 2 left, 3 right): he goes, if there is such a CELL and no WALL: SEEDS that are UP then are added.")
            // Alone on a cell between walls: he can't go, and the seed is up after every step all the same.
            .with("person 0;person 0;owes 0 1 1;seed 0 0 0 1;wall 1;wall 8").is(1, x -> x.days(1))
            .is(99, x -> x.days(99)).is(0, x -> Edge.last(x.days(99), x.personOf(0, 0)))
            .is(0, x -> Edge.last(x.days(99), x.personOf(1, 0)))
            .with("person 9;person 63").is(0, x -> x.days(99))
            // He has left the seed, or come to one, by the end of the step, whichever way he goes.
            .with("person 9;person 9;owes 0 1 1;owes 1 0 1;seed 1 0 9 0;seed 1 0 9 1").is(1, x -> x.days(1))
            .with("person 9;person 63;go 1 9;owes 0 1 1;owes 1 0 1;seed 1 0 1 0;seed 1 0 8 0;seed 1 0 10 0;seed 1 0 17 0;seed 1 0 1 1;seed 1 0 8 1;seed 1 0 10 1;seed 1 0 17 1")
            .is(1, x -> x.days(1))
            // Who isn't drawn keeps up what he keeps up, whichever of them it is.
            .with("person 0;person 0;owes 0 1 1;owes 1 0 1;wall 1;wall 8;seed 1 0 0 0;seed 1 0 0 1")
            .is(2, x -> x.days(1)).is(198, x -> x.days(99))
            .is(2, x -> Edge.last(x.seed(0), x.days(1))).is(2, x -> Edge.last(x.seed(2), x.days(1)))
            .is(2, x -> Edge.last(x.seed(77), x.days(1))).is(2, x -> Edge.last(x.seed(99999), x.days(1)))
            .with("person 27;person 27;owes 0 1 1;seed 2 0 27 1;seed 4 0 27 0").is(2, x -> x.days(1))
            .is(4, x -> x.days(2));
        // Each way, from each corner and from the middle, by a seedness whose two draws are told here.
        for (int start : new int[] {0, 7, 27, 56, 63}) {
            for (int v = 0; v < 12; v++) {
                int seedness = v * 70001 - 5;
                int way = (int) (drawn(seedness, 2) % 4);
                int who = (int) (drawn(seedness, 1) % 3);
                int row = start / 8 + (way == 0 ? -1 : way == 1 ? 1 : 0);
                int column = start % 8 + (way == 2 ? -1 : way == 3 ? 1 : 0);
                int to = row < 0 || row > 7 || column < 0 || column > 7 ? start : 8 * row + column;
                day.with(x -> {
                    Edge.read(x, "person " + start + ";person " + start + ";person " + start);
                    x.seed(seedness);
                }).is(to, x -> Edge.last(x.days(1), x.personOf(who, 0)))
                .is(start, x -> Edge.last(x.days(1), x.personOf((who + 1) % 3, 0)))
                    .is(start, x -> Edge.last(x.days(1), x.personOf((who + 2) % 3, 0)));
            }
        }
    }

    /** The upper half of what a seedness becomes by so many draws, told by numbers that don't wrap. */
    private static long drawn(int seedness, int times) {
        long s = seedness & 0xffffffffL;
        for (int i = 0; i < times; i++) {
            s = (s * 1103515245L + 12345L) % 4294967296L;
        }
        return s / 65536;
    }

    private static void draws() {
        Edge e = Edge.terms(3, "A DRAW below n: SEEDNESS (1 at first) becomes SEEDNESS times 1103515245, and 12345 (an int, wrapping); its upper 16 bits, no sign, modulo n.");
        e.empty().asks(1, x -> x.status(7)).is(1, x -> x.seed(5));
        for (int seedness : new int[] {1, 0, -1, Integer.MIN_VALUE, Integer.MAX_VALUE, 1 << 16}) {
            int two = seedness * 1103515245 + 12345;
            int left = two * 1103515245 + 12345;
            e.with(x -> {
                x.person(27);
                x.seed(seedness);
            }).is(left, x -> Edge.last(x.days(1), x.status(7)));
        }
        // Draws whose highest bit is set, below a number that doesn't divide 65536: a sign would tell.
        for (int who = 0; who < 7; who++) {
            int seedness = 0;
            while (drawn(seedness, 1) < 32768 || drawn(seedness, 1) % 7 != who || drawn(seedness, 2) < 32768) {
                seedness++;
            }
            int found = seedness;
            int way = (int) (drawn(found, 2) % 4);
            int to = way == 0 ? 19 : way == 1 ? 35 : way == 2 ? 26 : 28;
            int moved = who;
            e.with(x -> {
                for (int p = 0; p < 7; p++) {
                    x.person(27);
                }
                x.seed(found);
            }).is(to, x -> Edge.last(x.days(1), x.personOf(moved, 0)));
        }
    }

    private static void shelves() {
        Edge.terms(3, "SHELVES 0 to 7 hold NOTHING (at first), a ROW, or a SEED.").empty()
            .asks(NONE, x -> x.holds(0)).asks(NONE, x -> x.holds(7)).asks(NONE, x -> x.holds(8))
            .asks(NONE, x -> x.holds(-1))
            .is(1, x -> x.row(0, 0, 1)).is(1, x -> x.row(7, 0, 1)).outside(0, 7, (x, s) -> x.row(s, 0, 1))
            .outside(0, 7, (x, s) -> x.show(s, NONE))
            .with("person 0;seed 0 0 0 0").is(10, x -> Edge.last(x.show(7, 0), x.holds(7)))
            .is(0, x -> Edge.last(x.show(7, 0), x.row(7, 0, 1), x.holds(7)))
            .is(NONE, x -> Edge.last(x.show(7, 0), x.show(7, NONE), x.holds(7)));
        Edge rows = Edge.terms(3, "A ROW has a SORT (0 bytes, 1 shorts, 2 ints, 3 longs, 4 booleans) and 0 to 40 elements (0, or not so, at first);")
            .empty();
        for (int k = 0; k < 5; k++) {
            int sort = k;
            rows.is(sort, x -> Edge.last(x.row(0, sort, 40), x.holds(0)))
                .is(sort, x -> Edge.last(x.row(0, sort, 0), x.holds(0)))
                .is(0, x -> Edge.last(x.row(0, sort, 40), x.element(0, 0)))
                .is(0, x -> Edge.last(x.row(0, sort, 40), x.element(0, 39)))
                .is(1, x -> Edge.last(x.row(0, sort, 40), x.set(0, 39, 1), x.element(0, 39)));
        }
        rows.outside(0, 4, (x, o) -> x.row(0, o, 1)).outside(0, 40, (x, n) -> x.row(0, 0, n))
            .with(x -> Edge.row(x, 0, 3, 5, 6)).is(0, x -> Edge.last(x.row(0, 3, 2), x.element(0, 1)))
            .is(0, x -> Edge.last(x.row(0, 0, 0), x.row(0, 3, 2), x.element(0, 0)));
        Edge bits = Edge.terms(3, "what is put in keeps its lowest bits (of booleans: whether it is not 0); told they are numbers (1, 0).")
            .empty();
        long[][] puts = {
            {0, 127, 127}, {0, 128, -128}, {0, 255, -1}, {0, 256, 0}, {0, -128, -128}, {0, -129, 127}, {0, Long.MAX_VALUE, -1}, {0, Long.MIN_VALUE, 0},
            {1, 32767, 32767}, {1, 32768, -32768}, {1, 65535, -1}, {1, 65536, 0}, {1, -32769, 32767}, {1, Long.MAX_VALUE, -1},
            {2, 2147483647L, 2147483647L}, {2, 2147483648L, -2147483648L}, {2, 4294967295L, -1}, {2, 4294967296L, 0}, {2, -2147483649L, 2147483647L},
            {3, Long.MAX_VALUE, Long.MAX_VALUE}, {3, Long.MIN_VALUE, Long.MIN_VALUE}, {3, -1, -1},
            {4, 0, 0}, {4, 1, 1}, {4, 2, 1}, {4, -1, 1}, {4, 256, 1}, {4, 1L << 32, 1}, {4, Long.MIN_VALUE, 1},
        };
        for (long[] put : puts) {
            bits.is(put[2], x -> Edge.last(x.row(0, (int) put[0], 1), x.set(0, 0, put[1]), x.element(0, 0)));
        }
        bits.is(0, x -> Edge.last(x.row(0, 4, 1), x.set(0, 0, 7), x.set(0, 0, 0), x.element(0, 0)));
    }

    private static void refusals() {
        Edge.of("REFUSALS", "-2 BAD a number that may not be, nothing of that number.")
            .refuses(BAD, x -> x.person(64)).refuses(BAD, x -> x.personOf(3, 0)).refuses(BAD, x -> x.seedOf(3, 0))
            .refuses(BAD, x -> x.show(0, 3));
        Edge.of("REFUSALS", "-3 OTHER: a SHELF that holds another thing than is wanted.")
            .refuses(OTHER, x -> x.set(2, 0, 1)).refuses(OTHER, x -> x.says(0, 0))
            .refuses(OTHER, x -> x.copy(0, 2, 0, 0, 1))
            .refuses(OTHER, x -> x.tells(2, 0, NONE)).refuses(OTHER, x -> x.judge(0, 2, 0))
            .refuses(OTHER, x -> x.seen(0, 2, 0)).refuses(OTHER, x -> x.walk(0, 2, 0));
        Edge.of("REFUSALS", "-4 NOTHING: a SHELF that holds NOTHING.")
            .refuses(NOTHING, x -> x.set(6, 0, 1)).refuses(NOTHING, x -> x.says(6, 0))
            .refuses(NOTHING, x -> x.copy(0, 7, 0, 0, 1))
            .refuses(NOTHING, x -> x.tells(6, 0, NONE)).refuses(NOTHING, x -> x.judge(0, 6, 0))
            .refuses(NOTHING, x -> x.seen(0, 6, 0)).refuses(NOTHING, x -> x.walk(0, 6, 0));
        Edge.of("REFUSALS", "-5 STUCK: it can't be as things stand.")
            .refuses(STUCK, x -> x.wall(0, true)).refuses(STUCK, x -> x.step(0, 0)).refuses(STUCK, x -> x.pay(0, 1, 6))
            .refuses(STUCK, x -> x.ring(3))
            .empty().refuses(STUCK, x -> x.weed()).refuses(STUCK, x -> x.back()).refuses(STUCK, x -> x.days(1))
            .refuses(STUCK, x -> x.worst()).refuses(STUCK, x -> x.poorest());
        Edge.of("REFUSALS", "-6 FULL.").with(EIGHT).refuses(FULL, x -> x.person(0))
            .with(x -> Edge.feed(x, " ".repeat(250))).refuses(FULL, x -> x.feed(0))
            .with(x -> {
                x.person(0);
                for (int i = 0; i < 16; i++) {
                    x.sow(0, 0, 0, 0);
                }
            }).refuses(FULL, x -> x.sow(0, 0, 0, 0));
        Edge.of("REFUSALS", "(net() answers -1000002.)").refuses(BAD, -1000002, x -> x.net(3), x -> { })
            .refuses(BAD, -1000002, x -> x.net(-1), x -> { });
    }

    private static void firstThatFits() {
        Edge.of("REFUSALS", "REFUSALS (the call answers the number; nothing changes but how many there were; the first that fits as each line has them):")
            // Each is counted, one by one, and all of them together.
            .is(0, x -> x.status(12) + x.status(13) + x.status(14) + x.status(15) + x.status(16))
            .answers(54321, x -> {
                x.up(9);
                times(2, () -> x.says(0, 0));
                times(3, () -> x.says(6, 0));
                times(4, () -> x.step(0, 0));
                times(5, () -> x.person(0));
                times(5, () -> x.person(0));
                return x.status(12) + 10 * x.status(13) + 100 * x.status(14) + 1000 * x.status(15) + 10000 * x.status(16);
            })
            .refuses(BAD, x -> x.set(8, -1, 0)).refuses(OTHER, x -> x.set(2, -1, 0))
            .refuses(NOTHING, x -> x.set(6, -1, 0))
            .refuses(BAD, x -> x.copy(8, 2, 0, 0, 1)).refuses(BAD, x -> x.copy(2, 8, 0, 0, 1))
            .refuses(BAD, x -> x.copy(6, -1, 0, 0, 1))
            .refuses(OTHER, x -> x.copy(2, 6, 0, 0, 1)).refuses(OTHER, x -> x.copy(6, 2, 0, 0, 1))
            .refuses(OTHER, x -> x.copy(0, 1, -1, 0, 1))
            .refuses(NOTHING, x -> x.copy(0, 6, -1, 0, 1)).refuses(NOTHING, x -> x.copy(6, 7, 0, 0, -1))
            .refuses(BAD, x -> x.says(0, 6)).refuses(BAD, x -> x.says(6, -1)).refuses(BAD, x -> x.says(8, 0))
            .refuses(BAD, x -> x.tells(2, 11, NONE)).refuses(BAD, x -> x.tells(6, 0, -2))
            .refuses(OTHER, x -> x.tells(2, 10, NONE)).refuses(BAD, x -> x.tells(0, 4, NONE))
            .refuses(BAD, x -> x.judge(3, 2, 0)).refuses(BAD, x -> x.seen(3, 6, 0)).refuses(BAD, x -> x.walk(0, 2, 41))
            .refuses(BAD, x -> x.walk(0, 0, 4))
            .refuses(OTHER, x -> x.walk(0, 2, 40)).refuses(NOTHING, x -> x.walk(0, 6, 40))
            .refuses(BAD, x -> x.step(0, 4)).refuses(BAD, x -> x.pay(0, 1, 1000))
            .with(EIGHT + ";wall 7").refuses(BAD, x -> x.person(7)).refuses(BAD, x -> x.person(64))
            .with(x -> Edge.feed(x, " ".repeat(250))).refuses(BAD, x -> x.feed(256))
            .empty().refuses(BAD, x -> x.days(0)).refuses(BAD, x -> x.days(100));
    }

    private static void times(int n, Runnable call) {
        for (int i = 0; i < n; i++) {
            call.run();
        }
    }
}
