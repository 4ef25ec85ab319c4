/** Promises 31 to 39: debts, rings of them, guesses, and the fewest seeds that tell. */
final class DebtPromisesTest {
    private static final int NONE = Probe.NONE;
    private static final int BAD = Probe.BAD;
    private static final int OTHER = Probe.OTHER;
    private static final int NOTHING = Probe.NOTHING;
    private static final int STUCK = Probe.STUCK;

    public static void main(String[] args) {
        promise31();
        promise32();
        promise33();
        promise34();
        promise34Rank();
        promise35();
        promise36();
        promise37();
        promise37First();
        promise38May();
        promise38Sure();
        promise39();
        promise39Refused();
        Probe.end("DebtPromisesTest");
    }

    private static void promise31() {
        Probe p = Probe.of("promise 31", "person 0;person 0;person 0;person 0;person 0;person 0;person 0;person 0");
        for (int i = 0; i < 7; i++) {
            p.x.owes(i, i + 1, 1);
        }
        for (int y = 1; y < 8; y++) {
            p.is("chain(0, " + y + ")", p.x.chain(0, y), y);
            p.is("chain(" + y + ", 0)", p.x.chain(y, 0), NONE);
        }
        p.x.owes(1, 5, 1);
        p.is("a shorter one", p.x.chain(0, 6), 3);
        p.x.owes(0, 6, 1);
        p.is("he himself", p.x.chain(0, 6), 1);
        p.x.owes(7, 0, 1);
        p.is("behind", p.x.chain(6, 5), 4);
        p.no(BAD, "the same", p.x.chain(0, 0));
        p.no(BAD, "chain(8, 0)", p.x.chain(8, 0));
        p.no(BAD, "chain(0, -1)", p.x.chain(0, -1));
    }

    private static void promise32() {
        Probe p = new Probe("promise 32");
        p.no(STUCK, "nobody", p.x.poorest());
        p.is("garden", p.read("person 0;person 0;person 0;person 0"), 4);
        p.is("all alike", p.x.poorest(), 0);
        p.is("garden", p.read("owes 0 3 5;owes 1 3 9;owes 2 3 9;owes 3 0 1"), 4);
        p.is("the first of two", p.x.poorest(), 1);
        p.x.owes(2, 0, 1);
        p.is("the least", p.x.poorest(), 2);
    }

    private static void promise33() {
        Probe p = Probe.of("promise 33", "person 9;person 63;person 62;owes 0 1 50;owes 0 2 7;"
                + "seed 3 3 9 1;seed 4 0 9 1;seed 0 0 11 1;seed 3 6 9 1");
        p.is("below 30", p.x.due(0, 1), 21);
        p.is("nothing of 2's", p.x.due(0, 2), 0);
        p.is("nothing owed", p.x.due(1, 0), 0);
        p.x.sow(5, 8, 18, 1);
        p.is("below 8", p.x.due(0, 1), 43);
        p.x.sow(2, 0, 27, 1);
        p.is("all", p.x.due(0, 1), 50);
        p.x.owes(0, 1, 29);
        p.is("all of it", p.x.due(0, 1), 29);
        p.x.sow(5, 7, 9, 2);
        p.is("one coin", p.x.due(0, 2), 1);
        p.x.owes(0, 2, 6);
        p.is("none", p.x.due(0, 2), 0);
        p.x.sow(1, 0, 9, 2);
        p.is("a shy one", p.x.due(0, 2), 6);
        p.no(BAD, "the same", p.x.due(0, 0));
        p.no(BAD, "due(3, 0)", p.x.due(3, 0));
        p.no(BAD, "due(0, -1)", p.x.due(0, -1));
    }

    private static void promise34() {
        Probe p = new Probe("promise 34");
        p.is("nobody", p.x.bare(), 0);
        p.is("garden", p.read("person 9;person 10;person 63;owes 0 2 50;owes 1 2 5;owes 0 1 3;seed 3 3 9 2;seed 0 0 10 2;seed 5 2 9 1"), 9);
        p.is("bare", p.x.bare(), 50 + 5 + 2);
        p.is("garden", p.read("seed 1 0 10 0;owes 1 0 8"), 2);
        p.is("to 0, too", p.x.bare(), 50 + 5 + 2 + 8);
        p.refusals("bare");
        p.is("nothing is paid", p.x.debt(0, 2), 50);
    }

    private static void promise34Rank() {
        Probe p = Probe.of("promise 34, rank", "person 9;person 63;person 62;owes 0 1 5;seed 4 0 9 1;seed 0 0 9 1");
        p.is("what is due is all he owes", p.x.bare(), 5);
        p.x.owes(0, 2, 1);
        p.is("he owes another", p.x.bare(), NONE);
        p.is("garden", p.read("go 0 12"), 1);
        p.is("he is far", p.x.bare(), 0);
        Probe q = Probe.of("promise 34, rank of his own", "person 9;person 63;owes 0 1 5;seed 5 3 9 1;seed 4 0 11 0");
        q.is("his own", q.x.bare(), NONE);
        q.x.sow(0, 0, 9, 1);
        q.is("all paid", q.x.bare(), 5);
        q.refusals("bare");
    }

    private static void promise35() {
        Probe p = Probe.of("promise 35", "person 0;person 0;person 0;owes 0 1 999;owes 1 0 9;owes 2 0 30;owes 0 2 5");
        p.is("net", p.x.net(0), 39 - 1004);
        p.is("net", p.x.net(1), 990);
        p.is("net", p.x.net(2), -25);
        p.no(BAD, "net(3)", p.x.net(3), -1000002);
        p.no(BAD, "net(-1)", p.x.net(-1), -1000002);
    }

    private static void promise36() {
        Probe p = new Probe("promise 36");
        p.is("nobody", p.x.mutual(), 0);
        p.is("garden", p.read("person 0;person 0;person 0;owes 0 1 9;owes 1 0 4;owes 1 2 7;owes 2 1 7;owes 0 2 5"), 8);
        p.is("mutual", p.x.mutual(), 11);
        p.is("nothing is struck", p.x.debt(0, 1), 9);
        p.refusals("mutual");
    }

    private static void promise37() {
        Probe p = Probe.of("promise 37", "person 0;person 0;person 0;person 0;person 0;owes 0 1 1;owes 1 0 1;owes 1 2 1;owes 2 1 1");
        p.is("two are no ring", p.x.ring(NONE), NONE);
        p.is("nor do some count twice", p.x.ring(0), NONE);
        p.no(BAD, "i -2 where none is", p.x.ring(-2));
        p.is("garden", p.read("owes 2 4 1;owes 4 3 1;owes 3 1 1"), 3);
        int[] four = {1, 2, 4, 3};
        ringIs(p, four);
        p.x.owes(3, 2, 1);
        int[] three = {2, 4, 3};
        ringIs(p, three);
        p.no(STUCK, "not so many", p.x.ring(3));
        p.no(BAD, "i -2", p.x.ring(-2));
    }

    private static void ringIs(Probe p, int[] ring) {
        p.is("ring(NONE)", p.x.ring(NONE), ring.length);
        for (int i = 0; i < ring.length; i++) {
            p.is("ring(" + i + ")", p.x.ring(i), ring[i]);
        }
    }

    private static void promise37First() {
        Probe p = Probe.of("promise 37, the first", "person 0;person 0;person 0;person 0;person 0;person 0;person 0;person 0");
        for (int i = 0; i < 8; i++) {
            p.x.owes(i, (i + 3) % 8, 1);
        }
        int[] all = {0, 3, 6, 1, 4, 7, 2, 5};
        ringIs(p, all);
        p.is("garden", p.read("owes 5 6 1;owes 6 7 1;owes 7 5 1"), 3);
        int[] late = {5, 6, 7};
        ringIs(p, late);
        p.is("garden", p.read("owes 0 7 1;owes 7 4 1;owes 4 0 1;owes 0 4 1;owes 4 7 1;owes 7 0 1"), 6);
        int[] first = {0, 4, 7};
        ringIs(p, first);
    }

    private static void promise38May() {
        Probe p = Probe.of("promise 38, may", "person 9;person 63;person 54;seed 4 0 9 1;seed 3 0 9 1;seed 5 0 9 1;seed 0 0 20 1");
        p.is("by nothing", p.x.guess(0, 1, 0), 1);
        p.x.sow(2, 0, 27, 1);
        p.is("one isn't up", p.x.guess(0, 1, 0), 0);
        p.is("not of 2's", p.x.guess(0, 2, 0), 1);
        p.x.owes(0, 1, 1);
        p.is("it is up", p.x.guess(0, 1, 0), 1);
        p.x.sow(1, 0, 10, 1);
        p.is("not of its reach", p.x.guess(0, 1, 0), 1);
        p.x.sow(1, 0, 9, 0);
        p.is("of another", p.x.guess(0, 1, 0), 1);
        p.x.owes(0, 1, 0);
        p.x.owes(2, 1, 1);
        p.read("go 2 27");
        p.is("up by another", p.x.guess(0, 1, 0), 1);
        p.x.sow(0, 0, 0, 1);
        p.is("one of two isn't up", p.x.guess(0, 1, 0), 0);
        p.no(BAD, "the same", p.x.guess(0, 0, 0));
        p.no(BAD, "guess(3, ..)", p.x.guess(3, 0, 0));
        p.no(BAD, "guess(.., -1)", p.x.guess(0, -1, 0));
        p.no(BAD, "what -1", p.x.guess(0, 1, -1));
        p.no(BAD, "what 2", p.x.guess(0, 1, 2));
    }

    private static void promise38Sure() {
        Probe p = Probe.of("promise 38, sure", "person 9;person 63;person 54;owes 0 1 1;seed 4 0 9 1;seed 3 0 9 1;seed 5 0 9 1;seed 0 0 20 1");
        p.is("by nothing", p.x.guess(0, 1, 1), 0);
        p.x.sow(2, 0, 27, 1);
        p.is("up by him", p.x.guess(0, 1, 1), 1);
        p.is("not to 2", p.x.guess(0, 2, 1), 0);
        p.read("go 1 27");
        p.is("y aside", p.x.guess(0, 1, 1), 1);
        p.read("go 2 45");
        p.is("another is near", p.x.guess(0, 1, 1), 0);
        p.is("nor is the other sure", p.x.guess(2, 1, 1), 0);
        p.x.sow(1, 0, 9, 1);
        p.is("by a shy one", p.x.guess(0, 1, 1), 1);
        p.x.owes(0, 1, 0);
        p.is("none is up", p.x.guess(0, 1, 1), 0);
        p.x.owes(2, 1, 1);
        p.is("up by another", p.x.guess(0, 1, 1), 0);
        Probe q = Probe.of("promise 38, seed 0", "person 9;person 63;owes 0 1 1;seed 0 0 0 1");
        q.is("sure", q.x.guess(0, 1, 1), 1);
    }

    private static void tellsIs(Probe p, int n, int... cells) {
        p.is("tells", p.x.tells(0, n, NONE), cells.length);
        for (int i = 0; i < cells.length; i++) {
            p.is("tells, cell " + i, p.x.tells(0, n, i), cells[i]);
        }
        p.no(STUCK, "not so many", p.x.tells(0, n, cells.length));
    }

    private static void promise39() {
        Probe p = new Probe("promise 39");
        p.row(0, 2, 0, 2, 16, 18, 63, 7, 56, 63);
        tellsIs(p, 0);
        tellsIs(p, 1, 0);
        tellsIs(p, 2, 1);
        tellsIs(p, 4, 9);
        tellsIs(p, 5, 9, 54);
        tellsIs(p, 6, 6, 9, 54);
        p.is("too many", p.x.tells(0, 7, NONE), NONE);
        p.is("too many, whichever", p.x.tells(0, 8, 5), NONE);
        p.row(0, 3, 27, 28, 29, 30, 27);
        tellsIs(p, 1, 18);
        tellsIs(p, 2, 19);
        tellsIs(p, 3, 20);
        tellsIs(p, 5, 18, 21);
        p.row(0, 4, 1, 0, 1);
        tellsIs(p, 3, 0);
        p.row(0, 0, 63, 62, 61, 60, 59, 58, 57, 56, 55, 54);
        tellsIs(p, 9, 48, 51, 54);
        tellsIs(p, 10, 48, 51, 54);
        p.row(0, 1, 3, 8, 10, 12, 19);
        tellsIs(p, 5, 0, 11);
    }

    private static void promise39Refused() {
        Probe p = Probe.of("promise 39, refused", "person 0;seed 0 0 0 0");
        p.row(0, 3, 5, 64, -1, 1L << 40);
        p.x.show(1, 0);
        p.no(BAD, "no shelf", p.x.tells(8, 0, NONE));
        p.no(BAD, "no shelf", p.x.tells(-1, 0, NONE));
        p.no(BAD, "n -1 of a seed", p.x.tells(1, -1, NONE));
        p.no(BAD, "n 11 of nothing", p.x.tells(2, 11, NONE));
        p.no(BAD, "i -2 of nothing", p.x.tells(2, 0, -2));
        p.no(OTHER, "a seed", p.x.tells(1, 0, NONE));
        p.no(NOTHING, "nothing", p.x.tells(2, 0, NONE));
        p.no(BAD, "fewer elements", p.x.tells(0, 5, NONE));
        p.no(STUCK, "64", p.x.tells(0, 2, NONE));
        p.row(3, 2, 64, 5);
        p.no(STUCK, "64 ahead", p.x.tells(3, 2, NONE));
        p.x.set(0, 1, 6);
        p.no(STUCK, "-1", p.x.tells(0, 3, NONE));
        p.x.set(0, 2, 7);
        p.no(STUCK, "too great for an int", p.x.tells(0, 4, NONE));
        p.is("without it", p.x.tells(0, 3, NONE), 1);
        p.no(STUCK, "not so many", p.x.tells(0, 3, Integer.MAX_VALUE));
    }
}
