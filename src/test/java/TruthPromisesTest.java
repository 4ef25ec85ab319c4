/** Promises 40 to 51: told walks judged, what comes to pass in truth, images, and counts. */
final class TruthPromisesTest {
    private static final int NONE = Probe.NONE;
    private static final int BAD = Probe.BAD;
    private static final int OTHER = Probe.OTHER;
    private static final int NOTHING = Probe.NOTHING;
    private static final int STUCK = Probe.STUCK;
    private static final int FULL = Probe.FULL;

    public static void main(String[] args) {
        promise40();
        promise41();
        promise42();
        promise43();
        promise44();
        promise45();
        promise46();
        promise46Moves();
        promise47();
        promise48();
        promise49And50();
        promise50Shelves();
        promise51();
        fullGarden();
        Probe.end("TruthPromisesTest");
    }

    /** What judge, seen and walk are refused alike. */
    private static void refusedWalks(Probe p, java.util.function.ToIntFunction<int[]> call) {
        int[][] bad = {{0, 8, 0}, {0, -1, 0}, {0, 1, -1}, {0, 2, 41}, {-1, 2, 0}, {9, 1, 0}, {0, 0, 4}, {0, 0, 40}};
        for (int[] b : bad) {
            p.no(BAD, "him " + b[0] + ", shelf " + b[1] + ", n " + b[2], call.applyAsInt(b));
        }
        p.no(OTHER, "a seed", call.applyAsInt(new int[] {0, 1, 40}));
        p.no(NOTHING, "nothing", call.applyAsInt(new int[] {0, 2, 40}));
    }

    private static void promise40() {
        Probe p = Probe.of("promise 40", "person 0;seed 0 0 0 0;wall 16");
        p.row(0, 0, 1, 9, 8);
        p.x.show(1, 0);
        refusedWalks(p, a -> p.x.judge(a[0], a[1], a[2]));
        p.is("right", p.x.judge(0, 0, 3), NONE);
        p.is("no cells", p.x.judge(0, 0, 0), NONE);
        long[][] wrong = {{0}, {9}, {2}, {1, 1}, {1, 10}, {8, 16}, {8, 7}, {1, 2, 3, 4, 5, 6, 7, 8}, {1, 2, 3, 4, 5, 6, 7, 15, 16},
            {1, -7}, {8, 9, 17, 25, 33, 41, 49, 57, 65}, {1, 2, 66}, {1L << 32 | 1}, {1, 63, 1}};
        int[] due = {0, 0, 0, 1, 1, 1, 1, 7, 8, 1, 8, 2, 0, 1};
        for (int i = 0; i < wrong.length; i++) {
            p.row(3, 3, wrong[i]);
            p.is("wrong walk " + i, p.x.judge(0, 3, wrong[i].length), due[i]);
        }
        p.row(3, 4, 1, 0, 1);
        p.is("a walk of booleans", p.x.judge(0, 3, 3), NONE);
        p.row(3, 2, 1, 60);
        p.is("the first alone", p.x.judge(0, 3, 1), NONE);
        p.is("he stands still", p.x.personOf(0, 0), 0);
    }

    private static void promise41() {
        Probe p = Probe.of("promise 41", "person 0;person 63;owes 0 1 1;seed 0 0 0 1;seed 1 0 4 1;seed 1 0 2 0");
        p.row(0, 0, 1, 2, 3);
        p.x.show(1, 0);
        refusedWalks(p, a -> p.x.seen(a[0], a[1], a[2]));
        p.is("at once", p.x.seen(0, 0, 3), 0);
        p.is("no cells", p.x.seen(0, 0, 0), NONE);
        p.x.weed();
        p.is("garden", p.read("go 0 2"), 1);
        p.row(0, 0, 3, 4, 5);
        p.is("on the second", p.x.seen(0, 0, 3), 1);
        p.is("before it", p.x.seen(0, 0, 1), NONE);
        p.row(0, 0, 3, 4, 6);
        p.no(STUCK, "wrong", p.x.seen(0, 0, 3));
        p.is("the right part", p.x.seen(0, 0, 2), 1);
        p.row(0, 0, 62, 61);
        p.is("who owes nothing", p.x.seen(1, 0, 2), NONE);
    }

    private static void promise42() {
        Probe p = Probe.of("promise 42", "person 0;seed 0 0 0 0;wall 3");
        p.row(0, 0, 1, 2, 18);
        p.x.show(1, 0);
        refusedWalks(p, a -> p.x.walk(a[0], a[1], a[2]));
        p.is("no cells", p.x.walk(0, 0, 0), 0);
        p.is("two of them", p.x.walk(0, 0, 2), 2);
        p.is("where he is", p.x.personOf(0, 0), 2);
        p.no(STUCK, "from there it is wrong", p.x.walk(0, 0, 3));
        p.row(0, 0, 10, 2, 3);
        p.no(STUCK, "into a wall", p.x.walk(0, 0, 3));
        p.is("where he is", p.x.personOf(0, 0), 2);
        p.is("ahead of it", p.x.walk(0, 0, 1), 10);
        p.is("where he is", p.x.personOf(0, 0), 10);
    }

    private static void promise43() {
        Probe p = Probe.of("promise 43", "person 9;person 0;person 63;wall 17;person 16;person 23");
        p.is("up", p.x.step(0, 0), 1);
        p.is("down", p.x.step(0, 1), 9);
        p.no(STUCK, "a wall", p.x.step(0, 1));
        p.is("left", p.x.step(0, 2), 8);
        p.is("right", p.x.step(0, 3), 9);
        p.is("where he is", p.x.personOf(0, 0), 9);
        p.no(STUCK, "up from the first row", p.x.step(1, 0));
        p.no(STUCK, "left from the first column", p.x.step(1, 2));
        p.no(STUCK, "down from the last row", p.x.step(2, 1));
        p.no(STUCK, "right from the last column", p.x.step(2, 3));
        p.no(STUCK, "left from a row behind", p.x.step(3, 2));
        p.no(STUCK, "right from a row ahead", p.x.step(4, 3));
        p.no(BAD, "way 4", p.x.step(0, 4));
        p.no(BAD, "way -1", p.x.step(0, -1));
        p.no(BAD, "step(5, ..)", p.x.step(5, 0));
        p.no(BAD, "step(-1, ..)", p.x.step(-1, 0));
    }

    private static void promise44() {
        Probe p = Probe.of("promise 44", "person 0;person 0;owes 0 1 999;owes 1 0 5");
        p.is("pay", p.x.pay(0, 1, 1), 998);
        p.is("debt", p.x.debt(0, 1), 998);
        p.is("the other way", p.x.debt(1, 0), 5);
        p.no(STUCK, "he owes fewer", p.x.pay(0, 1, 999));
        p.is("all of it", p.x.pay(0, 1, 998), 0);
        p.no(STUCK, "he owes nothing", p.x.pay(0, 1, 1));
        int[][] bad = {{0, 0, 1}, {2, 0, 1}, {0, 2, 1}, {-1, 0, 1}, {0, -1, 1}, {1, 0, 0}, {1, 0, -1}, {1, 0, 1000}};
        for (int[] b : bad) {
            p.no(BAD, "pay", p.x.pay(b[0], b[1], b[2]));
        }
        p.is("debt", p.x.debt(1, 0), 5);
    }

    private static void promise45() {
        Probe p = new Probe("promise 45");
        p.is("nobody", p.x.strike(), 0);
        p.is("garden", p.read("person 0;person 0;person 0;owes 0 1 9;owes 1 0 4;owes 1 2 7;owes 2 1 7;owes 0 2 5"), 8);
        p.is("strike", p.x.strike(), 11);
        int[][] due = {{0, 1, 5}, {1, 0, 0}, {1, 2, 0}, {2, 1, 0}, {0, 2, 5}, {2, 0, 0}};
        for (int[] d : due) {
            p.is("debt(" + d[0] + ", " + d[1] + ")", p.x.debt(d[0], d[1]), d[2]);
        }
        p.is("strike again", p.x.strike(), 0);
        p.refusals("strike");
    }

    private static void promise46() {
        Probe p = new Probe("promise 46");
        p.no(STUCK, "nobody", p.x.days(1));
        p.no(BAD, "0 with nobody", p.x.days(0));
        p.is("seedness", p.x.status(7), 1);
        p.is("garden", p.read("person 27;person 28;owes 0 1 1;seed 4 0 27 0;seed 4 0 27 1;seed 0 0 0 1"), 6);
        p.no(BAD, "-1", p.x.days(-1));
        p.no(BAD, "100", p.x.days(100));
        p.is("one step can't take him away", p.x.days(1), 2);
        int s = 1;
        for (int i = 0; i < 2; i++) {
            s = s * 1103515245 + 12345;
        }
        p.is("two draws a step", p.x.status(7), s);
        for (int cell : new int[] {18, 19, 20, 26, 29, 34, 35, 36}) {
            p.read("go 1 63;go 0 27;wall " + cell);
        }
        p.is("he is shut in with two", p.x.days(99), 198);
    }

    /** The same steps, told by draws of the test's own. */
    private static void promise46Moves() {
        Probe p = Probe.of("promise 46, moves", "person 27;person 9;person 54;wall 28;wall 10;owes 0 1 5;owes 1 2 5;owes 2 0 5;"
                + "seed 0 0 19 1;seed 2 0 18 2;seed 1 0 54 0;seed 4 0 36 1;seed 5 5 45 0");
        Probe q = Probe.of("promise 46, moves", "person 27;person 9;person 54;wall 28;wall 10;owes 0 1 5;owes 1 2 5;owes 2 0 5;"
                + "seed 0 0 19 1;seed 2 0 18 2;seed 1 0 54 0;seed 4 0 36 1;seed 5 5 45 0");
        p.x.seed(20261118);
        int s = 20261118;
        int all = 0;
        for (int i = 0; i < 60; i++) {
            s = s * 1103515245 + 12345;
            int who = (s >>> 16) % 3;
            s = s * 1103515245 + 12345;
            q.x.step(who, (s >>> 16) % 4);
            all += Integer.bitCount(q.x.up(NONE));
        }
        p.is("days", p.x.days(60), all);
        p.is("seedness", p.x.status(7), s);
        for (int who = 0; who < 3; who++) {
            p.is("where " + who + " is", p.x.personOf(who, 0), q.x.personOf(who, 0));
        }
        p.refusals("days");
    }

    private static void promise47() {
        Probe p = Probe.of("promise 47", "person 0;person 1;owes 0 1 1;seed 0 0 0 1;seed 1 0 0 1;seed 2 0 0 1");
        p.x.show(0, 2);
        p.x.show(1, 1);
        p.is("weed", p.x.weed(), 2);
        p.is("up", p.x.up(NONE), 3);
        p.no(BAD, "it is gone", p.x.seedOf(2, 0));
        p.is("its shelf", p.x.holds(0), NONE);
        p.is("another shelf", p.x.holds(1), 11);
        p.is("its number again", p.x.sow(5, 7, 3, 0), 2);
        p.is("the new one", p.x.seedOf(2, 1), 7);
        for (int left = 2; left >= 0; left--) {
            p.is("weed", p.x.weed(), left);
        }
        p.no(STUCK, "there is none", p.x.weed());
    }

    private static void promise48() {
        Probe p = new Probe("promise 48");
        p.is("seed", p.x.seed(Integer.MIN_VALUE), 1);
        p.is("seed", p.x.seed(-7), Integer.MIN_VALUE);
        p.is("status", p.x.status(7), -7);
        p.refusals("seed");
    }

    private static void promise49And50() {
        Probe p = Probe.of("promises 49 and 50", "person 0;person 1;owes 0 1 5;seed 0 3 9 1;wall 20");
        p.no(STUCK, "nothing was kept", p.x.back());
        p.x.seed(77);
        p.row(3, 2, 1, 2);
        p.is("image", p.x.image(), 1);
        p.is("kept is not gone", p.x.status(0), 2);
        p.is("garden", p.read("person 2;go 0 40;owes 0 1 9;owes 1 0 1;seed 1 1 1 1;open 20;wall 21"), 7);
        p.x.weed();
        p.x.weed();
        p.x.sow(5, 5, 5, 0);
        p.x.seed(3);
        p.x.feed('w');
        p.x.set(3, 0, 8);
        p.no(BAD, "one more", p.x.up(9));
        for (int i = 0; i < 2; i++) {
            p.is("back", p.x.back(), 1);
            p.is("people", p.x.status(0), 2);
            p.is("where", p.x.personOf(0, 0), 0);
            p.is("debt", p.x.debt(0, 1), 5);
            p.is("debt", p.x.debt(1, 0), 0);
            p.is("seeds", p.x.status(1), 1);
            p.is("kind", p.x.seedOf(0, 0), 0);
            p.is("a", p.x.seedOf(0, 1), 3);
            p.is("cell", p.x.seedOf(0, 2), 9);
            p.is("creditor", p.x.seedOf(0, 3), 1);
            p.is("wall", p.x.isWall(20), 1);
            p.is("no wall", p.x.isWall(21), 0);
            p.is("seedness", p.x.status(7), 77);
            p.is("the tape stays", p.x.status(6), 1);
            p.is("rows stay", p.x.element(3, 0), 8);
            p.x.step(0, 1);
            p.x.owes(0, 1, 6);
            p.x.weed();
        }
        p.is("another image", p.x.image(), 1);
        p.x.owes(0, 1, 7);
        p.is("back", p.x.back(), 1);
        p.is("of the last image", p.x.debt(0, 1), 6);
        p.is("without seeds", p.x.status(1), 0);
        p.refusals("back");
    }

    private static void promise50Shelves() {
        Probe p = Probe.of("promise 50, shelves", "person 0;seed 0 1 0 0;seed 1 1 0 0");
        p.x.show(0, 1);
        p.is("image", p.x.image(), 1);
        p.x.weed();
        p.x.sow(5, 4, 0, 0);
        p.x.sow(3, 4, 0, 0);
        p.x.show(1, 1);
        p.x.show(2, 2);
        p.x.show(0, 0);
        p.row(3, 1, 4);
        p.is("back", p.x.back(), 1);
        p.is("the same number", p.x.holds(0), 10);
        p.is("the same number", p.x.holds(1), 11);
        p.is("it is the kept one", p.x.says(1, 1), 0);
        p.no(OTHER, "not the other", p.x.says(1, 5));
        p.is("nothing", p.x.holds(2), NONE);
        p.is("a row", p.x.holds(3), 1);
        p.is("its element", p.x.element(3, 0), 4);
        p.is("shelves", p.x.status(8), 3);
    }

    private static void promise51() {
        Probe p = Probe.of("promise 51", "person 0;person 1;person 2;wall 63;wall 62;owes 0 1 5;owes 0 2 6;owes 1 0 7;"
                + "seed 0 0 0 1;seed 0 0 0 2;seed 0 0 40 2;seed 0 0 40 2");
        p.x.seed(-9);
        p.x.row(0, 0, 0);
        p.x.show(7, 1);
        p.x.feed(1);
        p.x.feed(2);
        int[] due = {3, 4, 2, 18, 2, 2, 2, -9, 2};
        for (int what = 0; what < due.length; what++) {
            p.is("status(" + what + ")", p.x.status(what), due[what]);
        }
        for (int what : new int[] {-1, 9, 10, 11, 17, Integer.MIN_VALUE, Integer.MAX_VALUE}) {
            p.is("status(" + what + ")", p.x.status(what), NONE);
        }
        p.no(BAD, "bad", p.x.up(3));
        p.no(OTHER, "other", p.x.set(7, 0, 0));
        p.no(NOTHING, "nothing", p.x.set(1, 0, 0));
        p.no(STUCK, "stuck", p.x.back());
        for (int i = 0; i < 12; i++) {
            p.x.sow(0, 0, 0, 0);
        }
        p.no(FULL, "full", p.x.sow(0, 0, 0, 0));
        p.no(BAD, "a garden", p.x.garden(), -20);
        p.no(BAD, "net", p.x.net(3), -1000002);
    }

    /** Eight people and sixteen seeds, the last of them asked for all that can be asked. */
    private static void fullGarden() {
        Probe p = new Probe("a full garden");
        for (int i = 0; i < 8; i++) {
            p.x.person(i * 8);
        }
        for (int i = 0; i < 16; i++) {
            p.x.sow(i < 15 ? 0 : 4, 0, 56, 0);
        }
        p.x.owes(7, 0, 3);
        int last = 1 << 15;
        p.is("up", p.x.up(NONE), 65535);
        p.is("up by 7", p.x.up(7), 65535);
        p.is("by", p.x.by(15), 128);
        p.is("is up", p.x.seedOf(15, 5), 1);
        p.is("how many", p.x.personOf(7, 4), 16);
        p.is("worst", p.x.worst(), 7);
        p.is("poorest", p.x.poorest(), 7);
        p.is("chain", p.x.chain(7, 0), 1);
        p.is("ring", p.x.ring(NONE), NONE);
        p.is("bare", p.x.bare(), 3);
        p.is("due", p.x.due(7, 0), 3);
        p.is("mutual", p.x.mutual(), 0);
        p.is("loud", p.x.loud(7), 9);
        p.is("calm", p.x.calm(), 55);
        p.is("bar", p.x.bar(7, 0), 0);
        p.is("together", p.x.together(1), 127);
        p.is("may", p.x.guess(7, 0, 0), 1);
        p.is("not sure, for 6 is near", p.x.guess(7, 0, 1), 0);
        p.is("idle", p.x.idle(), 0);
        p.x.owes(7, 0, 0);
        p.x.owes(6, 5, 1);
        p.is("the last alone", p.x.up(NONE), last);
        p.is("idle", p.x.idle(), last - 1);
        p.is("bare", p.x.bare(), NONE);
        p.is("who owe", p.x.status(5), 1);
        p.is("strike", p.x.strike(), 0);
        p.is("days", p.x.days(1) > 0 ? 1 : 0, 1);
        p.refusals("all of it");
    }
}
