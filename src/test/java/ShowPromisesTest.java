/** Promises 20 to 30: what is up and by whom, and ways by which nothing shows. */
final class ShowPromisesTest {
    private static final int NONE = Probe.NONE;
    private static final int BAD = Probe.BAD;
    private static final int STUCK = Probe.STUCK;

    public static void main(String[] args) {
        promise20();
        promise20Reaches();
        promise20Prices();
        promise21();
        promise22();
        promise23();
        promise23First();
        promise23Walls();
        promise24();
        promise24Rank();
        promise25();
        promise26();
        promise27();
        promise28();
        promise29();
        promise30();
        Probe.end("ShowPromisesTest");
    }

    private static void promise20() {
        Probe p = Probe.of("promise 20", "person 0;person 2;person 40;owes 0 2 1;owes 1 2 1;owes 1 0 1;"
                + "seed 0 0 1 2;seed 0 0 0 2;seed 0 0 2 0;seed 4 0 3 1;seed 0 0 63 2;seed 0 0 1 1");
        p.is("by 0", p.x.up(0), 1 | 2);
        p.is("by 1", p.x.up(1), 1 | 4 | 8);
        p.is("by 2", p.x.up(2), 0);
        p.is("up", p.x.up(NONE), 1 | 2 | 4 | 8);
        p.is("seeds that are up", p.x.status(4), 4);
        p.no(BAD, "up(3)", p.x.up(3));
        p.no(BAD, "up(-2)", p.x.up(-2));
    }

    /** Of each kind a seed on cell 27 (row 3, column 3), and a debtor who goes about it. */
    private static void promise20Reaches() {
        int[] reaches = {1, 0, 2, 0, 2, 1};
        for (int kind = 0; kind < 6; kind++) {
            Probe p = Probe.of("promise 20, kind " + kind, "person 0;person 63;owes 0 1 999;seed " + kind + " 9 27 1");
            for (int cell = 0; cell < 64; cell++) {
                p.row(0, 2, cell);
                int far = Math.max(Math.abs(cell / 8 - 3), Math.abs(cell % 8 - 3));
                p.is("quiet " + cell, p.x.quiet(0, cell), far <= reaches[kind] ? 0 : 1);
            }
        }
    }

    private static void promise20Prices() {
        int[][] prices = {{0, 9, 1}, {1, 9, 1}, {2, 9, 1}, {3, 0, 1}, {3, 1, 10}, {3, 9, 90}, {5, 0, 1}, {5, 1, 1}, {5, 2, 2}, {5, 9, 9}};
        for (int[] k : prices) {
            Probe p = Probe.of("promise 20, kind " + k[0] + " of " + k[1],
                    "person 9;person 9;person 9;owes 0 2 999;seed " + k[0] + " " + k[1] + " 9 1");
            p.is("who owes another", p.x.up(0), 0);
            p.x.owes(0, 1, k[2] - 1);
            p.is("who owes too little", p.x.up(0), 0);
            p.x.owes(0, 1, k[2]);
            p.is("who owes enough", p.x.up(0), 1);
            p.is("the creditor", p.x.up(1), 0);
        }
        Probe p = Probe.of("promise 20, rank", "person 9;person 9;person 9;seed 4 9 9 0");
        p.is("nobody owes", p.x.up(NONE), 0);
        p.x.owes(0, 2, 1);
        p.is("its creditor", p.x.up(0), 1);
        p.is("who owes nobody", p.x.up(2), 0);
        p.x.owes(1, 2, 1);
        p.is("who owes another", p.x.up(1), 1);
    }

    private static void promise21() {
        Probe p = Probe.of("promise 21", "person 0;person 9;person 2;person 63;owes 0 3 1;owes 1 3 1;owes 2 3 1;owes 3 0 1;"
                + "seed 0 0 0 3;seed 2 0 0 3;seed 1 0 9 3;seed 4 0 63 3;seed 0 0 63 3");
        int[] due = {3, 7, 2, 8, 0};
        for (int seed = 0; seed < due.length; seed++) {
            p.is("by(" + seed + ")", p.x.by(seed), due[seed]);
        }
        p.no(BAD, "by(5)", p.x.by(5));
        p.no(BAD, "by(-1)", p.x.by(-1));
    }

    private static void promise22() {
        Probe p = Probe.of("promise 22", "person 0;person 9;owes 0 1 1;seed 0 0 27 1;wall 40");
        p.is("near", p.x.quiet(0, 36), 0);
        p.is("on it", p.x.quiet(0, 27), 0);
        p.is("far", p.x.quiet(0, 29), 1);
        p.is("a wall", p.x.quiet(0, 40), 0);
        p.is("for the creditor", p.x.quiet(1, 27), 1);
        p.is("open", p.x.wall(40, false), 1);
        p.is("no wall", p.x.quiet(0, 40), 1);
        p.no(BAD, "quiet(2, ..)", p.x.quiet(2, 0));
        p.no(BAD, "quiet(-1, ..)", p.x.quiet(-1, 0));
        p.no(BAD, "cell 64", p.x.quiet(0, 64));
        p.no(BAD, "cell -1", p.x.quiet(0, -1));
    }

    private static void promise23() {
        Probe p = Probe.of("promise 23", "person 0;person 63;owes 0 1 1;seed 0 0 0 1;seed 1 0 10 1;seed 1 0 18 1");
        // Where he is needn't be quiet, and the next cells aren't.
        p.is("none", p.x.way(0, 3, NONE), NONE);
        p.is("none, its first cell", p.x.way(0, 3, 0), NONE);
        p.is("where he is", p.x.way(0, 0, NONE), 0);
        p.no(STUCK, "no first cell", p.x.way(0, 0, 0));
        p.is("go", p.read("go 0 2"), 1);
        p.is("to 26", p.x.way(0, 26, NONE), 5);
        int[] cells = {3, 11, 19, 27, 26};
        for (int i = 0; i < cells.length; i++) {
            p.is("cell " + i, p.x.way(0, 26, i), cells[i]);
        }
        p.no(STUCK, "cell 5", p.x.way(0, 26, 5));
        p.is("to one that isn't quiet", p.x.way(0, 10, NONE), NONE);
        p.no(BAD, "way(2, ..)", p.x.way(2, 0, 0));
        p.no(BAD, "way(-1, ..)", p.x.way(-1, 0, 0));
        p.no(BAD, "cell 64", p.x.way(0, 64, NONE));
        p.no(BAD, "cell -1", p.x.way(0, -1, NONE));
        p.no(BAD, "i -2", p.x.way(0, 26, -2));
        p.no(BAD, "i -2 where none is", p.x.way(0, 10, -2));
    }

    /** Of several ways the one whose cells come first. */
    private static void promise23First() {
        Probe p = Probe.of("promise 23, the first", "person 27");
        int[][] ways = {{45, 28, 29, 37, 45}, {9, 19, 11, 10, 9}, {13, 19, 11, 12, 13}, {41, 26, 25, 33, 41}};
        for (int[] w : ways) {
            p.is("steps", p.x.way(0, w[0], NONE), w.length - 1);
            for (int i = 1; i < w.length; i++) {
                p.is("to " + w[0] + ", cell " + (i - 1), p.x.way(0, w[0], i - 1), w[i]);
            }
        }
    }

    /** A long way about walls; columns at the edges aren't beside one another. */
    private static void promise23Walls() {
        Probe p = new Probe("promise 23, walls");
        int[] walls = {8, 9, 10, 11, 12, 13, 14, 25, 26, 27, 28, 29, 30, 31, 40, 41, 42, 43, 44, 45, 46, 48, 57};
        for (int cell : walls) {
            p.x.wall(cell, true);
        }
        p.x.person(0);
        p.is("to 56, which is closed in", p.x.way(0, 56, NONE), NONE);
        p.is("to 58", p.x.way(0, 58, NONE), 7 + 2 + 7 + 2 + 7 + 2 + 5 + 1);
        p.is("the last", p.x.way(0, 58, 32), 58);
        p.is("the first", p.x.way(0, 58, 0), 1);
        p.is("the 8th", p.x.way(0, 58, 7), 15);
        p.is("how many he can come to", p.x.reach(0), 64 - 23 - 1);
        p.x.wall(15, true);
        p.is("to 16", p.x.way(0, 16, NONE), NONE);
        p.is("the row alone", p.x.reach(0), 8);
    }

    private static void promise24() {
        // Between him and the rest stand walls, but for cell 8, by which a seed of 2's stands, and of 3's one that is
        // asleep; about cell 63 one of 1's and one of 2's.
        Probe p = Probe.of("promise 24", "person 0;person 63;person 63;person 63;wall 1;wall 9;owes 0 1 1;owes 0 2 1;"
                + "seed 1 0 8 2;seed 0 0 8 3;seed 1 0 63 1;seed 1 0 63 2;seed 1 0 62 1");
        p.is("none to 7", p.x.way(0, 7, NONE), NONE);
        p.is("bar to 7", p.x.bar(0, 7), 2);
        p.is("bar to 8", p.x.bar(0, 8), 2);
        p.is("bar to 62", p.x.bar(0, 62), NONE);
        p.is("bar to 63", p.x.bar(0, 63), NONE);
        p.is("bar to a wall", p.x.bar(0, 9), NONE);
        p.is("there is a way", p.x.bar(0, 0), NONE);
        p.is("there is a way", p.x.bar(1, 7), NONE);
        p.x.owes(0, 3, 1);
        p.is("two bar him", p.x.bar(0, 7), NONE);
        p.x.owes(0, 2, 0);
        p.is("now 3", p.x.bar(0, 7), 3);
        p.no(BAD, "bar(4, ..)", p.x.bar(4, 0));
        p.no(BAD, "bar(-1, ..)", p.x.bar(-1, 0));
        p.no(BAD, "cell 64", p.x.bar(0, 64));
        p.no(BAD, "cell -1", p.x.bar(0, -1));
        p.no(BAD, "cell -1 of nobody", p.x.bar(9, -1));
    }

    /** His own rank seeds may bar him; of several who would do the first. */
    private static void promise24Rank() {
        Probe p = Probe.of("promise 24, rank", "person 0;person 1;owes 0 1 1;seed 4 0 63 0");
        p.is("he himself", p.x.bar(0, 63), 0);
        p.is("the other has a way", p.x.bar(1, 63), NONE);
        Probe q = Probe.of("promise 24, two gates", "person 0;person 63;person 63;wall 9;owes 0 1 1;owes 0 2 1;seed 1 0 1 2;seed 1 0 8 1");
        q.is("the first of two", q.x.bar(0, 63), 1);
    }

    private static void promise25() {
        Probe p = Probe.of("promise 25", "person 0;person 63;owes 0 1 1;wall 2;wall 9;wall 8");
        p.is("he alone in a corner", p.x.reach(0), 2);
        p.is("the other", p.x.reach(1), 64 - 3 - 2);
        p.is("sow", p.x.sow(1, 0, 0, 1), 0);
        p.is("where he is, too", p.x.reach(0), 2);
        p.is("sow", p.x.sow(1, 0, 1, 1), 1);
        p.is("where he is alone", p.x.reach(0), 1);
        p.no(BAD, "reach(2)", p.x.reach(2));
        p.no(BAD, "reach(-1)", p.x.reach(-1));
    }

    private static void promise26() {
        Probe p = Probe.of("promise 26", "person 0;person 63;owes 0 1 1;seed 2 0 27 1;seed 0 0 0 1;wall 27");
        p.is("loud", p.x.loud(0), 25 - 1 + 4 - 1);
        p.is("loud for none who owes", p.x.loud(1), 0);
        p.no(BAD, "loud(2)", p.x.loud(2));
        p.no(BAD, "loud(-1)", p.x.loud(-1));
    }

    private static void promise27() {
        Probe p = Probe.of("promise 27", "person 0;person 63;person 9;wall 1;wall 8;owes 2 1 1;seed 1 0 60 1;wall 34");
        p.is("to 30", p.x.together(30), 6);
        p.is("to 60", p.x.together(60), 2);
        p.is("to 0", p.x.together(0), 1);
        p.is("to a wall", p.x.together(34), 0);
        p.no(BAD, "together(64)", p.x.together(64));
        p.no(BAD, "together(-1)", p.x.together(-1));
        p.is("nobody", new NextToItsDebtor().together(0), 0);
    }

    private static void promise28() {
        Probe p = Probe.of("promise 28", "wall 0;wall 5");
        p.is("nobody", p.x.calm(), 62);
        p.is("garden", p.read("person 63;person 62;owes 0 1 1;owes 1 0 1;seed 1 0 8 0;seed 1 0 16 1;seed 1 0 8 1;seed 1 0 5 1"), 8);
        p.is("calm", p.x.calm(), 60);
        p.x.owes(1, 0, 0);
        p.x.sow(1, 0, 24, 0);
        p.is("calm", p.x.calm(), 60);
        p.x.owes(0, 1, 0);
        p.is("calm", p.x.calm(), 62);
        p.refusals("calm");
    }

    private static void promise29() {
        Probe p = Probe.of("promise 29", "person 63;person 63;person 63;owes 0 1 5;"
                + "seed 0 0 0 1;seed 0 0 0 0;seed 5 6 0 1;seed 5 5 0 1;seed 3 1 0 1;seed 4 0 0 2;seed 2 0 63 2");
        p.is("idle", p.x.idle(), 2 | 4 | 16 | 64);
        p.x.owes(0, 1, 0);
        p.is("all", p.x.idle(), 127);
        p.x.owes(2, 1, 10);
        p.is("one", p.x.idle(), 2 | 64);
        p.refusals("idle");
        p.is("no seeds", new NextToItsDebtor().idle(), 0);
    }

    private static void promise30() {
        Probe p = new Probe("promise 30");
        p.no(STUCK, "nobody", p.x.worst());
        p.is("garden", p.read("person 0;person 1;person 63;person 1"), 4);
        p.is("by nobody", p.x.worst(), 0);
        p.is("garden", p.read("seed 0 0 0 2;seed 0 0 1 2;owes 0 2 1;owes 1 2 9;owes 3 2 9;seed 0 0 2 2"), 6);
        p.is("the first of two", p.x.worst(), 1);
        p.is("more of 3", p.read("seed 0 0 0 0;owes 3 0 1"), 2);
        p.is("the last", p.x.worst(), 3);
    }
}
