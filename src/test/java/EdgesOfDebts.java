/** The edges that promises 31 to 39 name: debts, rings of them, guesses, and the fewest seeds that tell. */
final class EdgesOfDebts {
    private static final int NONE = Edge.NONE;
    private static final int BAD = Edge.BAD;
    private static final int OTHER = Edge.OTHER;
    private static final int NOTHING = Edge.NOTHING;
    private static final int STUCK = Edge.STUCK;
    private static final String EIGHT = "person 0;person 0;person 0;person 0;person 0;person 0;person 0;person 0";

    static void all() {
        promise31();
        promise32();
        promise33();
        promise34();
        promises35And36();
        promise37();
        promise38();
        promise39();
        promise39Refused();
    }

    /** Each owes the next one, the last one nobody. */
    private static void row(NextToItsDebtor x) {
        Edge.read(x, EIGHT);
        for (int p = 0; p < 7; p++) {
            x.owes(p, p + 1, 1);
        }
    }

    /** All sixteen seeds on cell 0, of 1; the last one is a RANK one, or of kind 0. */
    private static void full(NextToItsDebtor x, int lastKind) {
        Edge.read(x, "person 0;person 63;person 62;owes 0 1 9;seed 5 9 0 1");
        for (int i = 1; i < 16; i++) {
            x.sow(i < 15 ? 5 : lastKind, 9, 0, 1);
        }
    }

    private static void promise31() {
        Edge.promise(31, "By how few DEBTS x OWES y: 1 himself, 2 if he OWES somebody who OWES y, and so on; NONE.")
            .asks(1, x -> x.chain(0, 1)).asks(2, x -> x.chain(0, 2)).asks(1, x -> x.chain(1, 0))
            .asks(2, x -> x.chain(2, 1))
            .with(EdgesOfDebts::row).asks(1, x -> x.chain(6, 7)).asks(2, x -> x.chain(5, 7)).asks(7, x -> x.chain(0, 7))
            .asks(NONE, x -> x.chain(7, 0)).asks(NONE, x -> x.chain(1, 0))
            .is(1, x -> Edge.last(x.owes(0, 7, 1), x.chain(0, 7))).is(6, x -> Edge.last(x.owes(0, 2, 1), x.chain(0, 7)))
            .is(NONE, x -> Edge.last(x.owes(3, 4, 0), x.chain(0, 7)))
            .is(2, x -> Edge.last(x.owes(7, 0, 1), x.chain(6, 0)));
        Edge.promise(31, "BAD: also the same.").refuses(BAD, x -> x.chain(0, 0)).refuses(BAD, x -> x.chain(2, 2))
            .outside(0, 2, (x, p) -> x.chain(p, 0))
            .outside(0, 2, (x, p) -> x.chain(0, p)).outside(0, 2, (x, p) -> x.chain(p, p)).empty()
            .refuses(BAD, x -> x.chain(0, 1))
            .with("person 0;person 0;person 0;owes 0 1 1;owes 1 0 1").refuses(BAD, x -> x.chain(0, 0));
        Edge.promise(31, "(NONE isn't refused.)").with("person 0;person 0").asks(NONE, x -> x.chain(0, 1))
            .asks(NONE, x -> x.chain(1, 0));
    }

    private static void promise32() {
        Edge.promise(32, "He of the least NET, of several the first.").asks(1, x -> x.poorest()).with("person 0")
            .asks(0, x -> x.poorest()).with(EIGHT).asks(0, x -> x.poorest())
            .with(EdgesOfDebts::row).asks(0, x -> x.poorest()).with(EIGHT + ";owes 7 0 1").asks(7, x -> x.poorest())
            .with(EIGHT + ";owes 6 0 999;owes 7 0 999").asks(6, x -> x.poorest())
            .with(EIGHT + ";owes 6 0 998;owes 7 0 999").asks(7, x -> x.poorest());
        Edge.promise(32, "STUCK: nobody.").empty().refuses(STUCK, x -> x.poorest());
    }

    private static void promise33() {
        Edge.promise(33, "DUE of x to y.").asks(5, x -> x.due(0, 1)).asks(0, x -> x.due(1, 0)).asks(0, x -> x.due(0, 2))
            .asks(0, x -> x.due(2, 0)).asks(0, x -> x.due(1, 2))
            .is(999, x -> Edge.last(x.owes(0, 1, 999), x.due(0, 1))).is(1, x -> Edge.last(x.owes(0, 1, 1), x.due(0, 1)))
            .is(0, x -> Edge.last(x.owes(0, 1, 0), x.due(0, 1)))
            .is(1, x -> Edge.last(x.owes(2, 0, 20), x.due(2, 0))).is(0, x -> Edge.last(x.owes(2, 0, 19), x.due(2, 0)))
            .with(x -> full(x, 0)).asks(9, x -> x.due(0, 1)).asks(0, x -> x.due(0, 2))
            .is(1, x -> Edge.last(x.weed(), x.due(0, 1)));
        Edge.promise(33, "BAD: also the same.").refuses(BAD, x -> x.due(0, 0)).refuses(BAD, x -> x.due(2, 2))
            .outside(0, 2, (x, p) -> x.due(p, 0)).outside(0, 2, (x, p) -> x.due(0, p))
            .outside(0, 2, (x, p) -> x.due(p, p)).empty().refuses(BAD, x -> x.due(0, 1));
    }

    private static void promise34() {
        Edge.promise(34, "BARE; NONE.").with(x -> full(x, 0)).asks(9, x -> x.bare())
            .is(9, x -> Edge.last(x.owes(0, 2, 1), x.bare())).is(1, x -> Edge.last(x.weed(), x.bare()))
            .with(x -> full(x, 4)).asks(NONE, x -> x.bare()).is(1, x -> Edge.last(x.weed(), x.bare()))
            .with(Edge::furnish)
            .asks(NONE, x -> x.bare()).is(5, x -> Edge.last(x.weed(), x.bare()))
            .is(0, x -> Edge.last(x.weed(), x.pay(0, 1, 5), x.bare()))
            .empty().asks(0, x -> x.bare()).with("person 0;seed 0 0 0 0;seed 4 0 0 0").asks(0, x -> x.bare())
            .with("person 0;person 0;owes 0 1 1;seed 4 0 0 0").asks(NONE, x -> x.bare())
            // He that pays what is due to one still owes another, so that a RANK one stays up; he that is far from it may.
            .with("person 0;person 0;person 0;owes 0 1 1;owes 0 2 1;seed 0 0 0 1;seed 4 0 0 0")
            .asks(NONE, x -> x.bare())
            .with("person 0;person 0;person 0;owes 0 1 1;owes 0 2 1;seed 0 0 0 1;seed 4 0 0 0;seed 0 0 0 2")
            .asks(2, x -> x.bare())
            .with("person 0;person 0;person 0;owes 0 1 1;owes 0 2 1;seed 0 0 0 1;seed 4 0 3 0").asks(1, x -> x.bare());
    }

    private static void promises35And36() {
        Edge.promise(35, "NET.").asks(6, x -> x.net(0)).asks(-4, x -> x.net(1)).asks(-2, x -> x.net(2)).with("person 0")
            .asks(0, x -> x.net(0))
            .with(EIGHT + ";owes 0 7 999").asks(-999, x -> x.net(0)).asks(999, x -> x.net(7));
        Edge none = Edge.promise(35, "-1000002.");
        for (int nobody : new int[] {-1, 3, 8, Integer.MIN_VALUE, Integer.MAX_VALUE}) {
            none.refuses(BAD, -1000002, x -> x.net(nobody), x -> { });
        }
        none.empty().refuses(BAD, -1000002, x -> x.net(0), x -> { }).with(EIGHT)
            .refuses(BAD, -1000002, x -> x.net(8), x -> { });
        Edge.promise(36, "MUTUAL.").asks(2, x -> x.mutual()).empty().asks(0, x -> x.mutual()).with("person 0;person 0")
            .asks(0, x -> x.mutual())
            .with("person 0;person 0;owes 0 1 999;owes 1 0 999").asks(999, x -> x.mutual()).with(EdgesOfDebts::row)
            .asks(0, x -> x.mutual())
            .with(EIGHT + ";owes 6 7 3;owes 7 6 4;owes 0 7 1;owes 7 0 1").asks(4, x -> x.mutual());
    }

    private static void promise37() {
        Edge.promise(37, "RING: how many PEOPLE (i NONE), the i-th; NONE: there is none.")
            .asks(3, x -> x.ring(NONE)).asks(0, x -> x.ring(0)).asks(1, x -> x.ring(1)).asks(2, x -> x.ring(2))
            .empty().asks(NONE, x -> x.ring(NONE)).with(EdgesOfDebts::row).asks(NONE, x -> x.ring(NONE))
            .is(8, x -> Edge.last(x.owes(7, 0, 1), x.ring(NONE)))
            .is(7, x -> Edge.last(x.owes(7, 0, 1), x.ring(7))).is(3, x -> Edge.last(x.owes(7, 5, 1), x.ring(NONE)))
            .is(NONE, x -> Edge.last(x.owes(7, 6, 1), x.ring(NONE)));
        Edge.promise(37, "BAD;").refuses(BAD, x -> x.ring(-2)).refuses(BAD, x -> x.ring(Integer.MIN_VALUE)).empty()
            .refuses(BAD, x -> x.ring(-2)).with(EIGHT).refuses(BAD, x -> x.ring(-2));
        Edge.promise(37, "STUCK: not so many.").refuses(STUCK, x -> x.ring(3))
            .refuses(STUCK, x -> x.ring(Integer.MAX_VALUE)).refuses(STUCK, x -> x.ring(8))
            .with(x -> {
                row(x);
                x.owes(7, 0, 1);
            }).refuses(STUCK, x -> x.ring(8)).asks(7, x -> x.ring(7));
        Edge.promise(37, "(NONE isn't refused.)").empty().asks(NONE, x -> x.ring(NONE)).asks(NONE, x -> x.ring(0))
            .asks(NONE, x -> x.ring(Integer.MAX_VALUE))
            .with("person 0;person 0;owes 0 1 1;owes 1 0 1").asks(NONE, x -> x.ring(0)).asks(NONE, x -> x.ring(2))
            .asks(NONE, x -> x.ring(3));
    }

    private static void promise38() {
        Edge.promise(38, "MAY (what 0), SURE (1) of x to y.").asks(1, x -> x.guess(0, 1, 0))
            .asks(1, x -> x.guess(0, 1, 1)).asks(1, x -> x.guess(0, 2, 0)).asks(0, x -> x.guess(0, 2, 1))
            .is(0, x -> Edge.last(x.pay(0, 1, 5), x.guess(0, 1, 0)))
            .is(0, x -> Edge.last(x.pay(0, 1, 5), x.guess(0, 1, 1)))
            .with("person 0;person 0").asks(1, x -> x.guess(0, 1, 0)).asks(0, x -> x.guess(0, 1, 1))
            .with(x -> full(x, 0)).asks(1, x -> x.guess(0, 1, 0)).asks(1, x -> x.guess(0, 1, 1))
            .is(0, x -> Edge.last(x.weed(), x.guess(0, 1, 1)))
            .is(0, x -> Edge.last(x.owes(0, 1, 0), x.guess(0, 1, 0)))
            .is(1, x -> Edge.last(x.owes(0, 1, 0), x.weed(), x.guess(0, 1, 0)));
        Edge.promise(38, "BAD: also the same.").refuses(BAD, x -> x.guess(0, 0, 0)).refuses(BAD, x -> x.guess(2, 2, 1))
            .outside(0, 2, (x, p) -> x.guess(p, 0, 0))
            .outside(0, 2, (x, p) -> x.guess(0, p, 1)).outside(0, 1, (x, w) -> x.guess(0, 1, w))
            .outside(0, 2, (x, p) -> x.guess(p, p, 0)).empty().refuses(BAD, x -> x.guess(0, 1, 0));
    }

    private static void promise39() {
        Edge.promise(39, "TELLS by the first n elements (0 to 10) of the ROW in SHELF s: how many SEEDS (i NONE), the CELL of the i-th; NONE: 3 don't do.")
            .asks(0, x -> x.tells(0, 0, NONE)).asks(1, x -> x.tells(0, 1, NONE)).asks(1, x -> x.tells(0, 3, NONE))
            .asks(0, x -> x.tells(3, 0, NONE)).asks(1, x -> x.tells(4, 10, NONE))
            .asks(0, x -> x.tells(4, 10, 0))
            .with(x -> Edge.row(x, 7, 0, 0, 7, 56, 63, 27)).asks(1, x -> x.tells(7, 1, NONE))
            .asks(2, x -> x.tells(7, 2, NONE)).asks(3, x -> x.tells(7, 3, NONE)).asks(NONE, x -> x.tells(7, 4, NONE))
            .asks(0, x -> x.tells(7, 3, 0)).asks(6, x -> x.tells(7, 3, 1)).asks(48, x -> x.tells(7, 3, 2))
            // An element that isn't asked for needn't be a cell.
            .with(x -> Edge.row(x, 0, 3, 5, 64)).asks(1, x -> x.tells(0, 1, NONE)).asks(4, x -> x.tells(0, 1, 0))
            .asks(0, x -> x.tells(0, 0, NONE))
            .with(x -> Edge.row(x, 0, 0, 0, 0, 0, 0, 0, 0, 0, 0, 0, 63)).asks(2, x -> x.tells(0, 10, NONE))
            .asks(1, x -> x.tells(0, 9, NONE)).asks(54, x -> x.tells(0, 10, 1));
    }

    private static void promise39Refused() {
        Edge.promise(39, "BAD SHELF, n, i (below NONE);").outside(0, 7, (x, s) -> x.tells(s, 0, NONE))
            .outside(0, 10, (x, n) -> x.tells(4, n, NONE)).outside(0, 10, (x, n) -> x.tells(2, n, NONE))
            .outside(0, 10, (x, n) -> x.tells(6, n, NONE)).refuses(BAD, x -> x.tells(0, 0, -2))
            .refuses(BAD, x -> x.tells(0, 3, Integer.MIN_VALUE)).refuses(BAD, x -> x.tells(2, 0, -2))
            .refuses(BAD, x -> x.tells(6, 0, -2)).asks(0, x -> x.tells(0, 0, NONE));
        Edge.promise(39, "OTHER;").refuses(OTHER, x -> x.tells(2, 0, NONE)).refuses(OTHER, x -> x.tells(2, 10, 0));
        Edge.promise(39, "NOTHING;").refuses(NOTHING, x -> x.tells(6, 0, NONE))
            .refuses(NOTHING, x -> x.tells(7, 10, 0));
        Edge.promise(39, "BAD: fewer elements;").refuses(BAD, x -> x.tells(0, 4, NONE))
            .refuses(BAD, x -> x.tells(0, 10, 9)).refuses(BAD, x -> x.tells(3, 1, NONE))
            .asks(1, x -> x.tells(0, 3, NONE))
            .with(x -> Edge.row(x, 0, 0, -1, -1)).refuses(BAD, x -> x.tells(0, 3, NONE));
        Edge stuck = Edge.promise(39, "STUCK: an element that is no CELL, not so many.")
            .refuses(STUCK, x -> x.tells(0, 0, 0)).refuses(STUCK, x -> x.tells(0, 3, 1))
            .refuses(STUCK, x -> x.tells(0, 3, Integer.MAX_VALUE)).refuses(STUCK, x -> x.tells(3, 0, 0));
        for (long no : new long[] {-1, 64, 1000, Long.MIN_VALUE, Long.MAX_VALUE, 1L << 32, (1L << 32) + 5}) {
            stuck.with(x -> Edge.row(x, 0, 3, 5, no)).refuses(STUCK, x -> x.tells(0, 2, NONE))
                .refuses(STUCK, x -> x.tells(0, 2, 0)).asks(1, x -> x.tells(0, 1, NONE))
                .with(x -> Edge.row(x, 0, 3, no, 5)).refuses(STUCK, x -> x.tells(0, 1, NONE))
                .refuses(STUCK, x -> x.tells(0, 2, NONE));
        }
        stuck.with(x -> Edge.row(x, 0, 0, 0, 7, 56, 63, 64)).refuses(STUCK, x -> x.tells(0, 5, NONE))
            .refuses(STUCK, x -> x.tells(0, 3, 3)).asks(48, x -> x.tells(0, 3, 2));
        Edge.promise(39, "(NONE isn't refused.)").with(x -> Edge.row(x, 0, 0, 0, 7, 56, 63))
            .asks(NONE, x -> x.tells(0, 4, NONE)).asks(NONE, x -> x.tells(0, 4, 0)).asks(NONE, x -> x.tells(0, 4, 3))
            .asks(NONE, x -> x.tells(0, 4, Integer.MAX_VALUE));
    }
}
