/** The edges that the document names in how it is used, and in its terms 1 (the garden, the tape) and 2 (what is up). */
final class EdgesOfTerms {
    private static final int NONE = Edge.NONE;
    private static final int BAD = Edge.BAD;
    private static final int STUCK = Edge.STUCK;
    private static final int FULL = Edge.FULL;

    private static final String TWO = "person 0;person 1;wall 7";
    private static final String ONE_OF_EACH = "person 2;owes 0 1 9;seed 0 0 0 0;wall 6;open 7;go 1 5";
    private static final String EIGHT = "person 0;person 0;person 0;person 0;person 0;person 0;person 0;person 0";

    static void all() {
        use();
        cells();
        people();
        seeds();
        tape();
        tokens();
        statements();
        faults();
        faultsByTheirPlace();
        up();
        upByPrice();
    }

    private static void use() {
        Edge.of("What it is", "An object is used for at most 512 calls after it has been made; what later calls answer is free.")
            .empty()
            .answers(511, x -> {
                for (int i = 1; i < 512; i++) {
                    x.seed(i);
                }
                return x.seed(512);
            })
            .answers(511, x -> {
                for (int i = 0; i < 511; i++) {
                    x.isWall(64);
                }
                return x.status(12);
            })
            .answers(64, x -> {
                for (int i = 0; i < 511; i++) {
                    x.image();
                }
                return x.calm();
            });
    }

    private static void cells() {
        Edge.terms(1, "CELLS have numbers, 0 to 63: 8 times the ROW and the COLUMN (0 to 7 each); a CELL is a WALL or not.")
            .empty()
            .is(1, x -> x.wall(0, true))
            .is(1, x -> x.wall(63, true))
            .outside(0, 63, (x, c) -> x.wall(c, true))
            .is(0, x -> x.isWall(0))
            .is(0, x -> x.isWall(63))
            .is(64, x -> {
                for (int cell = 0; cell < 64; cell++) {
                    x.wall(cell, true);
                }
                return x.status(2);
            })
            .with("person 7").is(15, x -> x.step(0, 1)).refuses(STUCK, x -> x.step(0, 3))
            .refuses(STUCK, x -> x.step(0, 0))
            .with("person 8").is(0, x -> x.step(0, 0)).refuses(STUCK, x -> x.step(0, 2))
            .with("person 56").is(57, x -> x.step(0, 3)).refuses(STUCK, x -> x.step(0, 1));
        Edge.terms(1, "FAR of two CELLS: the greater of the differences of their ROWS and COLUMNS.")
            // As near as can be over a corner; as near by numbers, but at two ends of a row.
            .with("person 0;person 1;owes 0 1 1;seed 0 0 9 1").asks(1, x -> x.up(0))
            .with("person 2;person 1;owes 0 1 1;seed 0 0 9 1").asks(1, x -> x.up(0))
            .with("person 16;person 1;owes 0 1 1;seed 0 0 9 1").asks(1, x -> x.up(0))
            .with("person 18;person 1;owes 0 1 1;seed 0 0 9 1").asks(1, x -> x.up(0))
            .with("person 3;person 1;owes 0 1 1;seed 0 0 9 1").asks(0, x -> x.up(0))
            .with("person 24;person 1;owes 0 1 1;seed 0 0 9 1").asks(0, x -> x.up(0))
            .with("person 8;person 1;owes 0 1 1;seed 0 0 7 1").asks(0, x -> x.up(0))
            .with("person 7;person 1;owes 0 1 1;seed 2 0 16 1").asks(0, x -> x.up(0))
            .with("person 0;person 1;owes 0 1 1;seed 2 0 56 1").asks(0, x -> x.up(0))
            .with("person 63;person 1;owes 0 1 1;seed 2 0 45 1").asks(1, x -> x.up(0))
            .with("person 63;person 1;owes 0 1 1;seed 2 0 44 1").asks(0, x -> x.up(0));
    }

    private static void people() {
        Edge.terms(1, "PEOPLE have numbers, 0 on, 8 at most, each on a CELL that is no WALL (several may be on one).")
            .empty()
            .is(0, x -> x.person(63))
            .with(EIGHT.substring(0, EIGHT.length() - 9)).is(7, x -> x.person(0)).asks(7, x -> x.status(0))
            .with(EIGHT).refuses(FULL, x -> x.person(0)).asks(8, x -> x.status(0)).asks(0, x -> x.personOf(7, 0))
            .refuses(BAD, x -> x.personOf(8, 0))
            .with("wall 5").refuses(BAD, x -> x.person(5))
            .with("person 5").refuses(STUCK, x -> x.wall(5, true));
        Edge.terms(1, "DEBTS: each of the PEOPLE OWES each other one so many COINS (0 to 999; 0 at first).").with(EIGHT)
            .asks(0, x -> x.debt(0, 7))
            .asks(0, x -> x.debt(7, 0))
            .asks(0, x -> x.status(3))
            .is(999, x -> Edge.last(x.owes(7, 6, 999), x.debt(7, 6)))
            .is(0, x -> Edge.last(x.owes(6, 7, 999), x.owes(6, 7, 0), x.debt(6, 7)))
            .outside(0, 999, (x, n) -> x.owes(0, 1, n))
            .is(56 * 999, x -> {
                for (int a = 0; a < 8; a++) {
                    for (int b = 0; b < 8; b++) {
                        if (a != b) {
                            x.owes(a, b, 999);
                        }
                    }
                }
                return x.status(3);
            });
    }

    private static void seeds() {
        Edge.terms(1, "SEEDS have numbers, 0 on, 16 at most,").with("person 0")
            .is(0, x -> x.sow(0, 0, 0, 0))
            .with(x -> sown(x, 15)).is(15, x -> x.sow(0, 0, 0, 0)).refuses(BAD, x -> x.seedOf(15, 0))
            .with(x -> sown(x, 16)).refuses(FULL, x -> x.sow(0, 0, 0, 0)).asks(16, x -> x.status(1))
            .asks(63, x -> x.seedOf(15, 2));
        Edge kinds = Edge.terms(1, "each of a KIND: 0 SEED; 1 SHY, 2 BOLD, 5 LATE, each under SEED; 3 PROUD, under SHY; 4 RANK, under BOLD;")
            .with("person 0").outside(0, 5, (x, k) -> x.sow(k, 0, 0, 0));
        // Bits of the kinds that a seed of each kind can be taken for.
        int[] may = {1, 3, 5, 11, 21, 33};
        for (int k = 0; k < may.length; k++) {
            int kind = k;
            kinds.is(may[kind], x -> {
                x.sow(kind, 0, 0, 0);
                x.show(0, 0);
                int bits = 0;
                for (int as = 0; as < 6; as++) {
                    bits |= (may[kind] >> as & 1) != 0 && x.says(0, as) >= 0 ? 1 << as : 0;
                }
                return bits;
            });
            for (int as = 0; as < 6; as++) {
                int other = as;
                if ((may[kind] >> as & 1) == 0) {
                    kinds.with(x -> {
                        x.person(0);
                        x.sow(kind, 0, 0, 0);
                        x.show(0, 0);
                    }).refuses(Edge.OTHER, x -> x.says(0, other));
                }
            }
            kinds.with("person 0");
        }
        Edge.terms(1, "a (0 to 9),").with("person 0")
            .is(0, x -> x.sow(3, 0, 0, 0)).is(0, x -> x.sow(3, 9, 0, 0)).outside(0, 9, (x, a) -> x.sow(3, a, 0, 0));
        Edge.terms(1, "on a CELL (several may be on one, on a WALL too),").with("person 0;wall 1;wall 63;seed 0 0 63 0")
            .is(1, x -> x.sow(0, 0, 1, 0)).is(1, x -> x.sow(0, 0, 63, 0)).is(1, x -> x.sow(0, 0, 0, 0))
            .is(0, x -> x.wall(63, true))
            .outside(0, 63, (x, c) -> x.sow(0, 0, c, 0));
        Edge.terms(1, "with a CREDITOR (one of the PEOPLE).").with(TWO)
            .is(0, x -> x.sow(0, 0, 0, 0)).is(0, x -> x.sow(0, 0, 0, 1)).outside(0, 1, (x, p) -> x.sow(0, 0, 0, p))
            .empty().refuses(BAD, x -> x.sow(0, 0, 0, 0));
    }

    private static void sown(NextToItsDebtor x, int n) {
        x.person(0);
        for (int i = 0; i < n; i++) {
            x.sow(0, 0, 63, 0);
        }
    }

    private static void tape() {
        Edge.terms(1, "A GARDEN is read from THE TAPE (bytes, 250 at most).").empty()
            .is(250, x -> filled(x, 250, ' '))
            .with(x -> filled(x, 250, ' ')).refuses(FULL, x -> x.feed(' '))
            // The last byte counts: it makes cell 63 of cell 6.
            .with(x -> filled(x, 243, ' ')).is(1, x -> Edge.last(Edge.read(x, "wall 63"), x.isWall(63)))
            .with(x -> filled(x, 249, ' ')).refuses(BAD, -269, x -> {
                x.feed('?');
                return x.garden();
            }, NextToItsDebtor::wipe);
    }

    private static int filled(NextToItsDebtor x, int n, int letter) {
        int size = 0;
        for (int i = 0; i < n; i++) {
            size = x.feed(letter);
        }
        return size;
    }

    private static void tokens() {
        Edge.terms(1, "TOKENS, each as long as can be: WORDS (a .. z), NUMBERS (digits), the SIGN ; - blanks (32) may stand anywhere between.")
            .with(TWO)
            .reads(2, "wall8;open8")
            .reads(2, "  wall   8  ;  open   8  ")
            .reads(1, "owes0 1 5")
            .is(63, x -> Edge.last(Edge.read(x, "go 0 63"), x.personOf(0, 0)))
            .fault(0, "wallopen 8").fault(0, "walls 8").fault(0, "wallz 8").fault(0, "awall 8").fault(0, "wal 8")
            .fault(0, "ball 8").fault(0, "zall 8")
            .fault(0, "ho 0 8").fault(0, "gp 0 8").fault(0, "g 0 8").fault(0, "goo 0 8").fault(0, "w all 8")
            .fault(0, "8wall")
            .fault(7, "owes 0 15").fault(7, "wall 8 9").fault(6, "wall 8wall 9").fault(6, "wall 8x;")
            .fault(5, "wall x8");
        // The nearest ones to a and z, 0 and 9, the sign and the blank, and the ends of what a byte may be.
        Edge bytes = Edge.terms(1, "a byte that begins none);").with(TWO);
        for (int odd : new int[] {0, 9, 10, 31, 33, 45, '/', ':', '<', 'A', 'Z', '`', '{', 127, 128, 255}) {
            bytes.fault(0, "" + (char) odd + "wall 8").fault(4, "wall" + (char) odd + "8")
                .fault(6, "wall 8" + (char) odd)
                .fault(5, "wall " + (char) odd + "8");
        }
        bytes.fault(6, "wall 8\u00ff;wall 9").fault(7, "wall 8 -");
    }

    private static void statements() {
        Edge.terms(1, "STATEMENTS, one or more, with ; between:").with(TWO)
            .reads(1, "open 0").reads(2, "open 0;open 0").reads(41, "open0;".repeat(40) + "open0")
            .fault(0, "").fault(0, ";").fault(7, "open 0;").fault(7, "open 0;;open 0").fault(7, "open 0 open 0")
            .fault(0, ";open 0");
        Edge.terms(1, "wall C (nobody stands there);").with(TWO)
            .is(1, x -> Edge.last(Edge.read(x, "wall 2"), x.isWall(2)))
            .is(1, x -> Edge.last(Edge.read(x, "wall 63"), x.isWall(63)))
            .reads(1, "wall 7").is(1, x -> Edge.last(Edge.read(x, "go 0 2;wall 0"), x.isWall(0)))
            .fault(5, "wall 64").fault(5, "wall 999").fault(5, "wall 0").fault(5, "wall 1").fault(5, "wall -1")
            .fault(14, "person 3;wall 3");
        Edge.terms(1, "open C;").with(TWO)
            .is(0, x -> Edge.last(Edge.read(x, "open 7"), x.isWall(7))).reads(1, "open 0").reads(1, "open 63")
            .reads(1, "open 8")
            .is(7, x -> Edge.last(Edge.read(x, "open 7;wall 8;go 0 7"), x.personOf(0, 0)))
            .is(1, x -> Edge.last(Edge.read(x, "open 7;wall 8;go 0 7"), x.isWall(8)))
            .fault(5, "open 64").fault(5, "open 999").fault(4, "open;");
        Edge.terms(1, "person C (no WALL);").with(TWO)
            .is(63, x -> Edge.last(Edge.read(x, "person 63"), x.personOf(2, 0)))
            .is(0, x -> Edge.last(Edge.read(x, "person 0"), x.personOf(2, 0)))
            .fault(7, "person 64").fault(7, "person 7").fault(14, "wall 8;person 8").reads(2, "open 7;person 7");
        Edge.terms(1, "owes X Y N (COINS, 0 to 999; not the same);").with(TWO)
            .is(999, x -> Edge.last(Edge.read(x, "owes 0 1 999"), x.debt(0, 1)))
            .is(0, x -> Edge.last(Edge.read(x, "owes 1 0 5;owes 1 0 0"), x.debt(1, 0)))
            .is(7, x -> Edge.last(Edge.read(x, "owes 1 0 007"), x.debt(1, 0)))
            .fault(9, "owes 0 1 1000").fault(5, "owes 2 0 1").fault(7, "owes 0 2 1").fault(7, "owes 0 0 1")
            .fault(7, "owes 1 1 1000");
        Edge.terms(1, "seed K A C P (KIND, a, CELL, CREDITOR);").with(TWO)
            .is(5, x -> Edge.last(Edge.read(x, "seed 5 9 63 1"), x.seedOf(0, 0)))
            .is(9, x -> Edge.last(Edge.read(x, "seed 5 9 63 1"), x.seedOf(0, 1)))
            .is(63, x -> Edge.last(Edge.read(x, "seed 5 9 63 1"), x.seedOf(0, 2)))
            .is(1, x -> Edge.last(Edge.read(x, "seed 5 9 63 1"), x.seedOf(0, 3)))
            .is(0, x -> Edge.last(Edge.read(x, "seed 0 0 0 0"), x.seedOf(0, 0)))
            .is(0, x -> Edge.last(Edge.read(x, "seed 0 0 0 0"), x.seedOf(0, 3)))
            .reads(1, "seed 0 0 7 0")
            .fault(5, "seed 6 0 0 0").fault(7, "seed 0 10 0 0").fault(9, "seed 0 0 64 0").fault(11, "seed 0 0 0 2");
        Edge.terms(1, "go X C (X stands there from now on: no WALL).").with(TWO)
            .is(63, x -> Edge.last(Edge.read(x, "go 1 63"), x.personOf(1, 0)))
            .is(0, x -> Edge.last(Edge.read(x, "go 1 0"), x.personOf(1, 0)))
            .reads(1, "go 0 0").fault(3, "go 2 5").fault(5, "go 0 64").fault(5, "go 0 7").fault(12, "wall 8;go 0 8");
        Edge.terms(1, "All comes to what there is, or nothing.").with(TWO + ";owes 0 1 3;seed 0 0 5 1")
            .is(3, x -> Edge.last(Edge.read(x, "person 9;seed 1 1 9 2"), x.status(0)))
            .is(2, x -> Edge.last(Edge.read(x, "person 9;seed 1 1 9 2"), x.status(1)))
            .is(3, x -> Edge.last(Edge.read(x, "open 0"), x.debt(0, 1)))
            .fault(ONE_OF_EACH.length() + 1, ONE_OF_EACH + ";; ").fault(ONE_OF_EACH.length() + 1, ONE_OF_EACH + " 5")
            .fault(ONE_OF_EACH.length(), ONE_OF_EACH + "x").reads(6, ONE_OF_EACH);
    }

    private static void faults() {
        Edge.terms(1, "The FAULT: the place of the first byte of the first TOKEN that can't stand there").with(TWO)
            .fault(0, "x").fault(3, "   x").fault(0, "5").fault(0, "xyz 64").fault(5, "wall wall")
            .fault(9, "open 0;  ;;")
            .fault(5, "seed 6 10 64 2").fault(7, "seed 0 10 64 2").fault(12, "  owes 0 1  1000");
        Edge.terms(1, "(also a NUMBER that may not be, or has more than 3 digits;").with(TWO)
            .fault(5, "wall 64").fault(5, "wall 0008").fault(5, "wall 0000").reads(1, "wall 008").reads(1, "wall 08")
            .fault(9, "owes 0 1 0001").reads(1, "owes 0 1 001").reads(1, "owes 000 001 999").fault(5, "owes 0000 1 1")
            .fault(9, "owes 000 0001 1")
            .fault(5, "seed 0000 0 0 0").fault(3, "go 0000 5").fault(5, "go 0 0005")
            // Great enough that an int or a long would wrap to a number that may be.
            .fault(5, "wall 4294967297").fault(5, "wall 18446744073709551617")
            .fault(5, "wall " + "0".repeat(200) + "8");
        Edge.terms(1, "a WALL, somebody there: C;").with(TWO)
            .fault(7, "person 7").fault(5, "go 0 7").fault(5, "wall 0").fault(8, "  wall  1 ");
        Edge.terms(1, "the same: Y;").with(TWO).fault(7, "owes 0 0 1").fault(7, "owes 1 1").fault(8, "owes 1  01 1000");
        Edge.terms(1, "what there is no room for: its word;").with(EIGHT)
            .fault(0, "person 0").fault(7, "open 0;person 0").fault(2, "  person 64").fault(0, "person")
            .reads(1, "open 0")
            .with(EIGHT.substring(9)).reads(1, "person 0").fault(9, "person 0;person 0")
            .with(x -> sown(x, 16)).fault(0, "seed 0 0 0 0").fault(7, "open 0;seed 0 0 0 0").fault(0, "seed 9")
            .fault(0, "seed")
            .with(x -> sown(x, 15)).reads(1, "seed 0 0 0 0").fault(13, "seed 0 0 0 0;seed 0 0 0 0");
        Edge.terms(1, "THE TAPE's size, if it ends too early.").with(TWO)
            .fault(0, "").fault(1, " ").fault(4, "wall").fault(5, "wall ").fault(7, "wall 8;").fault(8, "wall 8; ")
            .fault(6, "person")
            .fault(6, "owes 0").fault(8, "owes 0 1").fault(4, "seed").fault(6, "seed 0").fault(8, "seed 0 0")
            .fault(10, "seed 0 0 0")
            .fault(2, "go").fault(4, "go 0").fault(4, "open").fault(250, " ".repeat(250))
            .fault(250, " ".repeat(246) + "wall");
    }

    /** The first fault counts, even if a later one is of a graver sort; each sentence goes by what the ones ahead did. */
    private static void faultsByTheirPlace() {
        Edge.terms(1, "The FAULT: the place of the first byte of the first TOKEN that can't stand there").with(TWO)
            .fault(5, "wall 64;?").fault(7, "wall 8;?;wall 64").reads(2, "person 9;owes 2 0 1")
            .fault(5, "owes 2 0 1;person 9")
            .reads(2, "open 7;go 0 7").fault(5, "go 0 7;open 7").reads(3, "go 0 9;wall 0;open 0");
    }

    private static void up() {
        Edge.terms(2, "A SEED is UP BY one of the PEOPLE who is no farther from it than its REACH and OWES enough:")
            .with("person 36;person 63;owes 0 1 1;seed 0 0 27 1").asks(1, x -> x.by(0))
            .with("person 37;person 63;owes 0 1 1;seed 0 0 27 1").asks(0, x -> x.by(0))
            .with("person 36;person 63;owes 0 1 0;seed 0 0 27 1").asks(0, x -> x.by(0))
            .with("person 36;person 63;person 1;owes 0 2 999;seed 0 0 27 1").asks(0, x -> x.by(0))
            .with("person 36;person 63;owes 1 0 999;seed 0 0 27 1").asks(0, x -> x.by(0));
        Edge.terms(2, "It is UP, if it is UP BY anybody.")
            .with("person 27;person 63;seed 0 0 27 1").asks(0, x -> x.seedOf(0, 5))
            .with("person 27;person 63;owes 0 1 1;seed 0 0 27 1").asks(1, x -> x.seedOf(0, 5))
            .with(EIGHT + ";go 6 63;owes 7 6 1;seed 0 0 0 6").asks(1, x -> x.seedOf(0, 5)).asks(128, x -> x.by(0))
            .empty().asks(0, x -> x.up(NONE));
        Edge.terms(2, "(Its CREDITOR is one of the PEOPLE, too: a RANK one may be UP BY him.)")
            .with("person 27;person 63;owes 0 1 1;seed 4 0 27 0").asks(1, x -> x.by(0))
            .with("person 27;person 63;owes 1 0 1;seed 4 0 27 0").asks(0, x -> x.by(0))
            .with("person 27;person 63;owes 0 1 999;seed 0 0 27 0;seed 5 0 27 0;seed 3 0 27 0").asks(0, x -> x.up(0));
    }

    private static void upByPrice() {
        upAt(Edge.terms(2, "SEED REACH 1, OWES its CREDITOR 1 at least;"), 0, 1, new int[][] {{0, 1}, {9, 1}});
        upAt(Edge.terms(2, "SHY likewise, REACH 0;"), 1, 0, new int[][] {{0, 1}, {9, 1}});
        upAt(Edge.terms(2, "BOLD likewise, REACH 2;"), 2, 2, new int[][] {{0, 1}, {9, 1}});
        upAt(Edge.terms(2, "PROUD as SHY, but 10 times a at least (and 1);"), 3, 0, new int[][] {{0, 1}, {1, 10}, {9, 90}});
        upAt(Edge.terms(2, "LATE as SEED, but a at least (and 1);"), 5, 1, new int[][] {{0, 1}, {1, 1}, {2, 2}, {9, 9}});
        Edge rank = Edge.terms(2, "RANK as BOLD, but it is enough that he OWES anybody 1 at least.");
        upAt(rank, 4, 2, new int[][] {{0, 1}, {9, 1}});
        rank.with("person 45;person 63;person 62;owes 0 2 1;seed 4 0 27 1").asks(1, x -> x.by(0))
            .with("person 46;person 63;person 62;owes 0 2 1;seed 4 0 27 1").asks(0, x -> x.by(0))
            .with("person 45;person 63;person 62;owes 2 0 1;seed 4 0 27 1").asks(0, x -> x.by(0));
    }

    /** A seed on cell 27 (row 3, column 3): at its reach and one farther, on each side; one coin too few, and enough. */
    private static void upAt(Edge e, int kind, int reach, int[][] prices) {
        for (int[] price : prices) {
            String seed = ";seed " + kind + " " + price[0] + " 27 1";
            for (int cell : new int[] {27 - reach, 27 + reach, 27 - 8 * reach, 27 + 8 * reach, 27 - 9 * reach, 27 + 9 * reach, 27 - 7 * reach, 27 + 7 * reach}) {
                e.with("person " + cell + ";person 63;owes 0 1 " + price[1] + seed).asks(1, x -> x.up(0));
            }
            int far = reach + 1;
            for (int cell : new int[] {27 - far, 27 + far, 27 - 8 * far, 27 + 8 * far, 27 - 9 * far, 27 + 9 * far, 27 - 7 * far, 27 + 7 * far}) {
                e.with("person " + cell + ";person 63;owes 0 1 999" + seed).asks(0, x -> x.up(0));
            }
            e.with("person 27;person 63;owes 0 1 " + (price[1] - 1) + seed).asks(0, x -> x.up(0));
            e.with("person 27;person 63;owes 0 1 999" + seed).asks(1, x -> x.up(0)).asks(reach, x -> x.seedOf(0, 4));
        }
    }
}
