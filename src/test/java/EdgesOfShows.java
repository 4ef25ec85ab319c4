/** The edges that promises 20 to 30 name: what is up and by whom, and ways by which nothing shows. */
final class EdgesOfShows {
    private static final int NONE = Edge.NONE;
    private static final int BAD = Edge.BAD;
    private static final int STUCK = Edge.STUCK;
    private static final String EIGHT = "person 0;person 0;person 0;person 0;person 0;person 0;person 0;person 0";

    static void all() {
        promises20And21();
        promise22();
        promise23();
        promise24();
        promise25();
        promise26();
        promise27();
        promise28();
        promise29();
        promise30();
    }

    /** All of the people on cell 0 but the last one, who owes them all; all seeds on that one's cell. */
    private static void full(NextToItsDebtor x) {
        Edge.read(x, EIGHT + ";go 7 63;owes 7 0 1");
        for (int i = 0; i < 16; i++) {
            x.sow(0, 0, 63, 0);
        }
    }

    private static void promises20And21() {
        Edge.promise(20, "SEEDS (bits) that are UP (person NONE), that are UP BY one.").asks(5, x -> x.up(NONE))
            .asks(1, x -> x.up(0)).asks(4, x -> x.up(1)).asks(0, x -> x.up(2))
            .empty().asks(0, x -> x.up(NONE)).with("person 0").asks(0, x -> x.up(NONE)).asks(0, x -> x.up(0))
            .with(EdgesOfShows::full).asks(65535, x -> x.up(NONE)).asks(65535, x -> x.up(7)).asks(0, x -> x.up(0))
            .asks(0, x -> x.up(6));
        Edge.promise(20, "BAD.").outside(NONE, 2, (x, p) -> x.up(p)).empty().outside(NONE, -1, (x, p) -> x.up(p))
            .with(EIGHT).outside(NONE, 7, (x, p) -> x.up(p));
        Edge.promise(21, "PEOPLE (bits) a SEED is UP BY.").asks(1, x -> x.by(0)).asks(0, x -> x.by(1))
            .asks(2, x -> x.by(2))
            .with(EdgesOfShows::full).asks(128, x -> x.by(0)).asks(128, x -> x.by(15))
            .with(x -> {
                Edge.read(x, EIGHT + ";owes 0 1 1;seed 4 0 0 0");
                for (int p = 1; p < 8; p++) {
                    x.owes(p, 0, 1);
                }
            }).asks(255, x -> x.by(0));
        Edge.promise(21, "BAD.").outside(0, 2, (x, d) -> x.by(d)).empty().refuses(BAD, x -> x.by(0))
            .with(EdgesOfShows::full).outside(0, 15, (x, d) -> x.by(d));
    }

    private static void promise22() {
        Edge.promise(22, "Whether a CELL is QUIET for one of the PEOPLE: 1, 0.").asks(0, x -> x.quiet(0, 0))
            .asks(0, x -> x.quiet(0, 18)).asks(1, x -> x.quiet(0, 3)).asks(1, x -> x.quiet(0, 19))
            .asks(0, x -> x.quiet(0, 20)).asks(0, x -> x.quiet(1, 20)).asks(1, x -> x.quiet(1, 0))
            .asks(0, x -> x.quiet(1, 63)).asks(0, x -> x.quiet(1, 44)).asks(1, x -> x.quiet(1, 43))
            .asks(1, x -> x.quiet(2, 27)).with("person 0").asks(1, x -> x.quiet(0, 0)).asks(1, x -> x.quiet(0, 63))
            .with(EdgesOfShows::full).asks(0, x -> x.quiet(7, 54)).asks(1, x -> x.quiet(6, 63));
        Edge.promise(22, "BAD.").outside(0, 2, (x, p) -> x.quiet(p, 0)).outside(0, 63, (x, c) -> x.quiet(0, c)).empty()
            .refuses(BAD, x -> x.quiet(0, 0));
    }

    private static void promise23() {
        String shut = "person 0;person 63;owes 0 1 1;seed 0 0 9 1;wall 40";
        Edge.promise(23, "WAY: how many steps (i NONE), its i-th CELL (0: where the first step leads); NONE: no WAY.")
            .with("person 0").asks(0, x -> x.way(0, 0, NONE)).asks(1, x -> x.way(0, 1, NONE))
            .asks(1, x -> x.way(0, 1, 0)).asks(14, x -> x.way(0, 63, NONE))
            .asks(1, x -> x.way(0, 63, 0)).asks(55, x -> x.way(0, 63, 12)).asks(63, x -> x.way(0, 63, 13))
            .with(shut).asks(NONE, x -> x.way(0, 1, NONE)).asks(NONE, x -> x.way(0, 63, NONE))
            .asks(NONE, x -> x.way(1, 40, NONE)).asks(0, x -> x.way(0, 0, NONE)).asks(14, x -> x.way(1, 0, NONE));
        Edge.promise(23, "BAD;").outside(0, 2, (x, p) -> x.way(p, 0, NONE)).outside(0, 63, (x, c) -> x.way(0, c, NONE))
            .refuses(BAD, x -> x.way(0, 0, -2)).refuses(BAD, x -> x.way(0, 63, -2))
            .refuses(BAD, x -> x.way(2, 26, Integer.MIN_VALUE)).refuses(BAD, x -> x.way(3, 0, -2))
            .refuses(BAD, x -> x.way(0, 64, 99)).empty().refuses(BAD, x -> x.way(0, 0, NONE));
        Edge.promise(23, "STUCK: not so many.").with("person 0").refuses(STUCK, x -> x.way(0, 0, 0))
            .refuses(STUCK, x -> x.way(0, 1, 1)).refuses(STUCK, x -> x.way(0, 63, 14))
            .refuses(STUCK, x -> x.way(0, 63, Integer.MAX_VALUE)).asks(63, x -> x.way(0, 63, 13)).with(shut)
            .refuses(STUCK, x -> x.way(0, 0, 0));
        Edge.promise(23, "(NONE isn't refused.)").with(shut).asks(NONE, x -> x.way(0, 63, NONE))
            .asks(NONE, x -> x.way(0, 63, 0)).asks(NONE, x -> x.way(0, 63, 99))
            .asks(NONE, x -> x.way(0, 63, Integer.MAX_VALUE)).asks(NONE, x -> x.way(0, 40, 1));
    }

    private static void promise24() {
        Edge.promise(24, "BAR; NONE: there is a WAY, or there would be none so.")
            .asks(1, x -> x.bar(0, 63)).asks(NONE, x -> x.bar(0, 0)).asks(NONE, x -> x.bar(2, 0))
            .asks(NONE, x -> x.bar(0, 20)).asks(1, x -> x.bar(1, 0)).asks(1, x -> x.bar(2, 62))
            .with("person 0").asks(NONE, x -> x.bar(0, 0)).asks(NONE, x -> x.bar(0, 63)).with("person 0;wall 1;wall 8")
            .asks(NONE, x -> x.bar(0, 63))
            .with("person 0;person 63;person 62;owes 0 1 1;owes 0 2 1;seed 0 0 9 1;seed 0 0 9 2")
            .asks(NONE, x -> x.bar(0, 63))
            .with(EIGHT + ";owes 7 6 1;seed 0 0 9 6").asks(6, x -> x.bar(7, 63)).asks(NONE, x -> x.bar(6, 63));
        Edge.promise(24, "BAD.").outside(0, 2, (x, p) -> x.bar(p, 0)).outside(0, 63, (x, c) -> x.bar(0, c)).empty()
            .refuses(BAD, x -> x.bar(0, 0));
        Edge.promise(24, "(NONE isn't refused.)").asks(NONE, x -> x.bar(0, 0)).asks(NONE, x -> x.bar(0, 21))
            .asks(NONE, x -> x.bar(2, 3));
    }

    private static void promise25() {
        Edge.promise(25, "How many CELLS one of the PEOPLE can come to over QUIET ones (where he is, too).")
            .asks(1, x -> x.reach(0)).asks(1, x -> x.reach(1)).asks(50, x -> x.reach(2))
            .with("person 0").asks(64, x -> x.reach(0)).with("person 0;wall 1;wall 8").asks(1, x -> x.reach(0))
            .with("person 7;wall 6;wall 15").asks(1, x -> x.reach(0))
            .with("person 0;person 63;owes 0 1 1;seed 1 0 0 1").asks(64, x -> x.reach(0))
            .with("person 0;person 63;owes 0 1 1;seed 1 0 1 1;seed 1 0 8 1").asks(1, x -> x.reach(0))
            .with("person 7;wall 5;wall 13;wall 22;wall 23").asks(4, x -> x.reach(0))
            .with(x -> {
                x.person(63);
                for (int cell = 0; cell < 63; cell++) {
                    x.wall(cell, true);
                }
            }).asks(1, x -> x.reach(0));
        Edge.promise(25, "BAD.").outside(0, 2, (x, p) -> x.reach(p)).empty().refuses(BAD, x -> x.reach(0)).with(EIGHT)
            .outside(0, 7, (x, p) -> x.reach(p));
    }

    private static void promise26() {
        Edge.promise(26, "How many CELLS that are no WALLS aren't QUIET for one of the PEOPLE.")
            .asks(21, x -> x.loud(0)).asks(12, x -> x.loud(1)).asks(12, x -> x.loud(2))
            .with("person 0;wall 5").asks(0, x -> x.loud(0))
            .with("person 0;person 0;owes 0 1 1;seed 2 0 27 1;seed 2 0 36 1;wall 27;wall 63").asks(33, x -> x.loud(0))
            .asks(0, x -> x.loud(1))
            .with("person 0;person 0;owes 0 1 1;seed 2 0 18 1;seed 2 0 21 1;seed 2 0 42 1;seed 2 0 45 1;seed 2 0 63 1;seed 2 0 61 1;seed 2 0 47 1;seed 2 0 23 1;seed 2 0 58 1")
            .asks(64, x -> x.loud(0));
        Edge.promise(26, "BAD.").outside(0, 2, (x, p) -> x.loud(p)).empty().refuses(BAD, x -> x.loud(0)).with(EIGHT)
            .outside(0, 7, (x, p) -> x.loud(p));
    }

    private static void promise27() {
        Edge.promise(27, "PEOPLE (bits) who have a WAY to a CELL.").asks(5, x -> x.together(0))
            .asks(2, x -> x.together(62)).asks(4, x -> x.together(3)).asks(0, x -> x.together(20))
            .empty().asks(0, x -> x.together(0)).asks(0, x -> x.together(63)).with(EIGHT).asks(255, x -> x.together(0))
            .asks(255, x -> x.together(63))
            .with(EIGHT + ";wall 1;wall 8;go 7 63").asks(127, x -> x.together(0)).asks(128, x -> x.together(2));
        Edge.promise(27, "BAD.").outside(0, 63, (x, c) -> x.together(c)).empty()
            .outside(0, 63, (x, c) -> x.together(c));
    }

    private static void promise28() {
        Edge.promise(28, "How many CELLS that are no WALLS are QUIET for all PEOPLE.").asks(41, x -> x.calm()).empty()
            .asks(64, x -> x.calm()).with("wall 0;wall 63").asks(62, x -> x.calm())
            .with("person 0").asks(64, x -> x.calm())
            .with(EIGHT + ";owes 0 7 1;owes 7 0 1;seed 0 0 0 7;seed 1 0 63 0;wall 62").asks(58, x -> x.calm())
            .with(x -> {
                for (int cell = 0; cell < 64; cell++) {
                    x.wall(cell, true);
                }
            }).asks(0, x -> x.calm());
    }

    private static void promise29() {
        Edge.promise(29, "SEEDS (bits) for which none of the PEOPLE OWES enough, wherever they stand.")
            .asks(2, x -> x.idle()).empty().asks(0, x -> x.idle())
            .with("person 0;person 63;owes 0 1 9;seed 3 1 63 1;seed 5 9 63 1;seed 0 0 63 0;seed 4 0 63 0;seed 3 0 63 1")
            .asks(5, x -> x.idle())
            .with("person 0;person 63;owes 0 1 10;seed 3 1 63 1;seed 5 9 63 1").asks(0, x -> x.idle())
            .with("person 0;person 63;owes 0 1 8;seed 3 1 63 1;seed 5 9 63 1").asks(3, x -> x.idle())
            .with("person 0;person 63;seed 4 0 0 0;seed 3 0 0 0;seed 5 0 0 0").asks(7, x -> x.idle())
            .with(EdgesOfShows::full).asks(0, x -> x.idle()).is(65535, x -> Edge.last(x.owes(7, 0, 0), x.idle()));
    }

    private static void promise30() {
        Edge.promise(30, "He BY whom most SEEDS are UP, of several the first.").asks(0, x -> x.worst()).with("person 0")
            .asks(0, x -> x.worst())
            .with(EIGHT).asks(0, x -> x.worst()).with(EdgesOfShows::full).asks(7, x -> x.worst())
            .with("person 0;person 0;person 0;owes 1 0 1;owes 2 0 1;seed 0 0 0 0").asks(1, x -> x.worst())
            .with("person 0;person 0;person 0;owes 1 0 1;owes 2 0 1;seed 0 0 0 0;owes 2 1 1;seed 0 0 0 1")
            .asks(2, x -> x.worst());
        Edge.promise(30, "STUCK: nobody.").empty().refuses(STUCK, x -> x.worst()).with("wall 5")
            .refuses(STUCK, x -> x.worst());
    }
}
