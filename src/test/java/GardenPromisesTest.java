/** Promises 9 to 19: how a garden is laid out, and what can be asked of it. */
final class GardenPromisesTest {
    private static final int NONE = Probe.NONE;
    private static final int BAD = Probe.BAD;
    private static final int STUCK = Probe.STUCK;
    private static final int FULL = Probe.FULL;

    public static void main(String[] args) {
        promise9();
        promise10();
        promise11();
        promise12();
        promise13();
        promise14();
        promise15();
        promise15Faults();
        promise15Full();
        promise16();
        promise17();
        promise18();
        promise19();
        Probe.end("GardenPromisesTest");
    }

    private static void promise9() {
        Probe p = new Probe("promise 9");
        p.is("wall", p.x.wall(0, true), 1);
        p.is("wall", p.x.wall(63, true), 1);
        p.is("wall again", p.x.wall(63, true), 0);
        p.is("isWall", p.x.isWall(63), 1);
        p.is("open", p.x.wall(63, false), 1);
        p.is("open again", p.x.wall(63, false), 0);
        p.is("isWall", p.x.isWall(63), 0);
        p.is("walls", p.x.status(2), 1);
        p.is("person", p.x.person(5), 0);
        p.no(BAD, "wall(-1)", p.x.wall(-1, true));
        p.no(BAD, "wall(64)", p.x.wall(64, false));
        p.no(STUCK, "where somebody stands", p.x.wall(5, true));
        p.is("it was open", p.x.wall(5, false), 0);
        p.is("walls", p.x.status(2), 1);
    }

    private static void promise10() {
        Probe p = new Probe("promise 10");
        p.is("wall", p.x.wall(7, true), 1);
        p.no(BAD, "person(-1)", p.x.person(-1));
        p.no(BAD, "person(64)", p.x.person(64));
        p.no(BAD, "on a wall", p.x.person(7));
        for (int i = 0; i < 8; i++) {
            p.is("person", p.x.person(i < 4 ? 63 : i * 8), i);
        }
        p.no(FULL, "the ninth", p.x.person(0));
        p.no(BAD, "the ninth on a wall", p.x.person(7));
        p.is("people", p.x.status(0), 8);
        p.is("where", p.x.personOf(3, 0), 63);
        p.is("where", p.x.personOf(7, 0), 56);
    }

    private static void promise11() {
        Probe p = Probe.of("promise 11", "person 0; person 1; wall 9");
        for (int i = 0; i < 16; i++) {
            p.is("sow", p.x.sow(i % 6, i % 10, i < 8 ? 9 : 63, i % 2), i);
        }
        p.is("kind", p.x.seedOf(15, 0), 3);
        p.is("a", p.x.seedOf(15, 1), 5);
        p.is("cell", p.x.seedOf(15, 2), 63);
        p.is("creditor", p.x.seedOf(15, 3), 1);
        p.no(FULL, "the seventeenth", p.x.sow(0, 0, 0, 0));
        int[][] bad = {{-1, 0, 0, 0}, {6, 0, 0, 0}, {0, -1, 0, 0}, {0, 10, 0, 0}, {0, 0, -1, 0}, {0, 0, 64, 0}, {0, 0, 0, -1}, {0, 0, 0, 2}};
        for (int[] b : bad) {
            p.no(BAD, "sow", p.x.sow(b[0], b[1], b[2], b[3]));
        }
        p.is("seeds", p.x.status(1), 16);
    }

    private static void promise12() {
        Probe p = Probe.of("promise 12", "person 0; person 0; person 0");
        p.is("owes", p.x.owes(0, 1, 999), 0);
        p.is("owes", p.x.owes(0, 1, 0), 999);
        p.is("owes", p.x.owes(0, 1, 7), 0);
        p.is("the other way", p.x.owes(1, 0, 3), 0);
        p.is("debt", p.x.debt(0, 1), 7);
        p.is("debt", p.x.debt(1, 0), 3);
        int[][] bad = {{0, 0, 1}, {-1, 0, 1}, {0, -1, 1}, {3, 0, 1}, {0, 3, 1}, {0, 1, -1}, {0, 1, 1000}};
        for (int[] b : bad) {
            p.no(BAD, "owes", p.x.owes(b[0], b[1], b[2]));
        }
        p.is("debts", p.x.status(3), 10);
    }

    private static void promise13() {
        Probe p = new Probe("promise 13");
        p.no(BAD, "feed(-1)", p.x.feed(-1));
        p.no(BAD, "feed(256)", p.x.feed(256));
        for (int i = 1; i <= 250; i++) {
            p.is("feed", p.x.feed(i == 1 ? 0 : 255), i);
        }
        p.no(FULL, "the 251st", p.x.feed(0));
        p.no(BAD, "a bad one when full", p.x.feed(256));
        p.is("size", p.x.status(6), 250);
    }

    private static void promise14() {
        Probe p = new Probe("promise 14");
        p.is("wipe", p.x.wipe(), 0);
        p.is("feed", p.x.feed('o'), 1);
        p.is("feed", p.x.feed('p'), 2);
        p.is("wipe", p.x.wipe(), 2);
        p.is("size", p.x.status(6), 0);
        p.is("garden", p.read("open 1"), 1);
        p.refusals("wipe");
    }

    private static void promise15() {
        Probe p = new Probe("promise 15");
        p.is("all statements", p.read("wall 9;open 9;wall 010;person 0;person 63;owes 0 1 999;seed 4 9 10 1;go 1 5"), 8);
        p.is("size", p.x.status(6), 0);
        p.is("isWall", p.x.isWall(9), 0);
        p.is("isWall", p.x.isWall(10), 1);
        p.is("where", p.x.personOf(0, 0), 0);
        p.is("where", p.x.personOf(1, 0), 5);
        p.is("debt", p.x.debt(0, 1), 999);
        p.is("kind", p.x.seedOf(0, 0), 4);
        p.is("a", p.x.seedOf(0, 1), 9);
        p.is("cell", p.x.seedOf(0, 2), 10);
        p.is("creditor", p.x.seedOf(0, 3), 1);
        p.is("more of it, without blanks", p.read("wall9;owes1 0 5"), 2);
        p.is("and with many", p.read("   go   0    7  ;  open   9   "), 2);
        p.is("where", p.x.personOf(0, 0), 7);
        p.is("isWall", p.x.isWall(9), 0);
        p.is("debt", p.x.debt(1, 0), 5);
        p.is("debt", p.x.debt(0, 1), 999);
        p.is("a wall on a wall", p.read("wall 10"), 1);
        p.is("walls", p.x.status(2), 1);
        p.refusals("garden");
        p.no(BAD, "a fault behind good ones", p.read("wall 20;go 0 21;person 22;owes 0 1 1;seed 0 0 0 0;x"), -20 - 50);
        p.is("not a wall", p.x.isWall(20), 0);
        p.is("nobody more", p.x.status(0), 2);
        p.is("not gone", p.x.personOf(0, 0), 7);
        p.is("the debt", p.x.debt(0, 1), 999);
        p.is("no seed more", p.x.status(1), 1);
        p.is("size", p.x.status(6), 0);
    }

    private static void promise15Faults() {
        Object[][] faults = {
            {"", 0}, {"   ", 3}, {"wall", 4}, {"wall ", 5}, {"wall 5;", 7}, {"wall 5; ", 8}, {"owes 0 1", 8},
            {";", 0}, {"wall 5;;", 7}, {"wall ;", 5}, {"5", 0}, {" walls 5", 1}, {"wal 5", 0}, {"wall 5 6", 7},
            {"wall 5 wall 6", 7}, {"wall 64", 5}, {"wall 0005", 5}, {"wall 1000", 5}, {"wall 5a", 6}, {"wall a", 5},
            {"Wall 5", 0}, {"wall 5\t", 6}, {"wall -5", 5}, {"wall\u00005", 4}, {"wall 5;\u00ff", 7}, {"wall five", 5},
            {"wall 0", 5}, {"open 64", 5}, {"open x", 5}, {"person 64", 7}, {"person 7", 7}, {"wall 8;person 8", 14},
            {"person 8;wall 8", 14}, {"owes 2 0 1", 5}, {"owes 0 2 1", 7}, {"owes 0 0 1", 7}, {"owes 0 1 1000", 9},
            {"owes 0 1 0001", 9}, {"owes 0 1 ;", 9}, {"owes 0 1 1 1", 11}, {"person 3;owes 0 3 1", 16},
            {"seed 6 0 0 0", 5}, {"seed 0 10 0 0", 7}, {"seed 0 0 64 0", 9}, {"seed 0 0 0 2", 11}, {"seed 0 0 0", 10},
            {"go 2 0", 3}, {"go 0 64", 5}, {"go 0 7", 5}, {"go 0", 4}, {"go0 1;wall1", 10}, {"go 0 1;wall 0;go 0 0", 19},
            {"wallopen 5", 0}, {"wallz 5", 0}, {"ball 5", 0}, {"ho 0 1", 0}, {"z", 0}, {"wall 5z", 6}, {"g o 0 1", 0}, {"owes 0 1 99 9", 12}, {"open 5\n;", 6},
        };
        for (Object[] f : faults) {
            Probe p = Probe.of("promise 15, " + f[0], "person 0;person 1;wall 7");
            p.no(BAD, "garden", p.read((String) f[0]), -20 - (Integer) f[1]);
            p.is("size", p.x.status(6), 0);
            p.is("people", p.x.status(0), 2);
            p.is("walls", p.x.status(2), 1);
            p.is("where", p.x.personOf(0, 0), 0);
        }
    }

    private static void promise15Full() {
        Probe p = new Probe("promise 15, full");
        p.is("eight", p.read("person 0;person 1;person 2;person 3;person 4;person 5;person 6;person 7"), 8);
        p.no(BAD, "the ninth", p.read(" person 64"), -21);
        p.no(BAD, "the ninth, told too early", p.read("open 1;person"), -27);
        StringBuilder seeds = new StringBuilder("seed 0 0 0 0");
        for (int i = 1; i < 15; i++) {
            seeds.append(";seed 0 0 0 0");
        }
        p.is("fifteen", p.read(seeds.toString()), 15);
        p.no(BAD, "one too many", p.read("seed 0 0 0 7;seed 9"), -33);
        p.is("seeds", p.x.status(1), 15);
        p.is("sixteen", p.read("seed 0 0 0 7"), 1);
        p.no(BAD, "none more", p.read("seed"), -20);
    }

    private static void promise16() {
        Probe p = Probe.of("promise 16", "person 0;person 27;owes 0 1 1;"
                + "seed 0 1 9 1;seed 1 2 9 1;seed 2 3 18 1;seed 3 4 0 1;seed 4 5 2 0;seed 5 6 1 1");
        int[] cells = {9, 9, 18, 0, 2, 1};
        int[] reaches = {1, 0, 2, 0, 2, 1};
        int[] ups = {1, 0, 1, 0, 1, 0};
        for (int i = 0; i < 6; i++) {
            p.is("kind", p.x.seedOf(i, 0), i);
            p.is("a", p.x.seedOf(i, 1), i + 1);
            p.is("cell", p.x.seedOf(i, 2), cells[i]);
            p.is("creditor", p.x.seedOf(i, 3), i == 4 ? 0 : 1);
            p.is("reach", p.x.seedOf(i, 4), reaches[i]);
            p.is("up", p.x.seedOf(i, 5), ups[i]);
        }
        p.no(BAD, "seedOf(6, ..)", p.x.seedOf(6, 0));
        p.no(BAD, "seedOf(-1, ..)", p.x.seedOf(-1, 0));
        p.no(BAD, "what -1", p.x.seedOf(0, -1));
        p.no(BAD, "what 6", p.x.seedOf(0, 6));
    }

    private static void promise17() {
        Probe p = Probe.of("promise 17", "person 0;person 27;person 63;owes 0 1 5;owes 0 2 7;owes 1 0 9;owes 2 1 11;"
                + "seed 0 0 1 1;seed 0 0 1 2;seed 0 0 55 1;seed 4 0 2 1;seed 0 0 30 1");
        int[][] due = {{0, 12, 9, 0, 3}, {27, 9, 16, 4, 0}, {63, 11, 7, 1, 1}};
        for (int person = 0; person < 3; person++) {
            for (int what = 0; what < 5; what++) {
                p.is("personOf(" + person + ", " + what + ")", p.x.personOf(person, what), due[person][what]);
            }
        }
        p.no(BAD, "personOf(3, ..)", p.x.personOf(3, 0));
        p.no(BAD, "personOf(-1, ..)", p.x.personOf(-1, 0));
        p.no(BAD, "what -1", p.x.personOf(0, -1));
        p.no(BAD, "what 5", p.x.personOf(0, 5));
    }

    private static void promise18() {
        Probe p = Probe.of("promise 18", "person 0;person 1;owes 0 1 33");
        p.is("debt", p.x.debt(0, 1), 33);
        p.is("debt", p.x.debt(1, 0), 0);
        p.is("the same", p.x.debt(1, 1), 0);
        p.no(BAD, "debt(2, ..)", p.x.debt(2, 0));
        p.no(BAD, "debt(-1, ..)", p.x.debt(NONE, 0));
        p.no(BAD, "debt(.., 2)", p.x.debt(0, 2));
        p.no(BAD, "debt(2, 2)", p.x.debt(2, 2));
    }

    private static void promise19() {
        Probe p = Probe.of("promise 19", "wall 0;wall 63;wall 31");
        for (int cell = 0; cell < 64; cell++) {
            p.is("isWall(" + cell + ")", p.x.isWall(cell), cell == 0 || cell == 31 || cell == 63 ? 1 : 0);
        }
        p.no(BAD, "isWall(-1)", p.x.isWall(-1));
        p.no(BAD, "isWall(64)", p.x.isWall(64));
    }
}
