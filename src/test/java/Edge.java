import java.util.ArrayList;
import java.util.Arrays;
import java.util.List;
import java.util.function.Consumer;
import java.util.function.ToLongBiFunction;
import java.util.function.ToLongFunction;

/**
 * A test of one sentence of the document that names a boundary, told by where it stands and by its words. Every check
 * makes new objects, each laid out alike, so that none goes on from another's calls, and none is called more than
 * 512 times.
 */
final class Edge {
    static final int NONE = NextToItsDebtor.NONE;
    static final int BAD = -2;
    static final int OTHER = -3;
    static final int NOTHING = -4;
    static final int STUCK = -5;
    static final int FULL = -6;
    static final List<Edge> ALL = new ArrayList<>();

    // What is asked once more after a call, for what can't be looked at: the tape's bytes, and the image.
    private static final List<ToLongFunction<NextToItsDebtor>> NEXT =
        List.of(x -> 0, NextToItsDebtor::garden, NextToItsDebtor::back);

    final String place;
    final String sentence;
    int checks = 0;
    int wrong = 0;
    private Consumer<NextToItsDebtor> scene = Edge::furnish;

    private Edge(String place, String sentence) {
        this.place = place;
        this.sentence = sentence;
        ALL.add(this);
    }

    static Edge of(String place, String sentence) {
        return new Edge(place, sentence);
    }

    static Edge promise(int number, String sentence) {
        return new Edge("Promise " + number, sentence);
    }

    static Edge terms(int number, String sentence) {
        return new Edge("Terms " + number, sentence);
    }

    /**
     * What is there if nothing else is said. People: 0 on 0, 1 on 62, 2 on 27. Debts: 0 to 1 5, 1 to 2 7, 2 to 0 9, 1 to
     * 0 2. Seeds: 0 (kind 0 on 9, of 1; up by 0), 1 (kind 3 of 2 on 27, of 0; not up), 2 (kind 4 on 62, of 1; up by 1).
     * Shelves: 0 bytes 1 2 3, 1 four longs, 2 seed 1, 3 booleans without elements, 4 forty ints, 5 bytes 7 8, 6 and 7
     * nothing. The tape: open 2. An image of a time ahead.
     */
    static void furnish(NextToItsDebtor x) {
        read(x, "person 0;person 63;person 27;owes 0 1 5;owes 1 2 7;seed 0 0 9 1;seed 3 2 27 0");
        x.image();
        read(x, "owes 2 0 9;owes 1 0 2;seed 4 1 62 1;wall 20;wall 21;go 1 62");
        x.seed(77);
        row(x, 0, 0, 1, 2, 3);
        x.row(1, 3, 4);
        x.show(2, 1);
        x.row(3, 4, 0);
        x.row(4, 2, 40);
        row(x, 5, 0, 7, 8);
        feed(x, "open 2");
    }

    static void feed(NextToItsDebtor x, String text) {
        for (int i = 0; i < text.length(); i++) {
            x.feed(text.charAt(i));
        }
    }

    static int read(NextToItsDebtor x, String text) {
        feed(x, text);
        return x.garden();
    }

    static void row(NextToItsDebtor x, int s, int sort, long... elements) {
        x.row(s, sort, elements.length);
        for (int i = 0; i < elements.length; i++) {
            x.set(s, i, elements[i]);
        }
    }

    /** Of calls made one after the other, what the last of them answers. */
    static long last(long... answers) {
        return answers[answers.length - 1];
    }

    Edge with(Consumer<NextToItsDebtor> newScene) {
        scene = newScene;
        return this;
    }

    /** A new object whose garden is read from a text. */
    Edge with(String text) {
        return with(x -> {
            if (read(x, text) < 0) {
                fail("the scene is no garden: " + text);
            }
        });
    }

    Edge empty() {
        return with(x -> { });
    }

    /** So the call answers; no other call is made on that object. */
    Edge answers(long due, ToLongFunction<NextToItsDebtor> call) {
        long got = answer(call, laidOut());
        check(got == due, "answered " + got + ", due is " + due);
        return this;
    }

    /** So the call answers, and nothing is refused. */
    Edge is(long due, ToLongFunction<NextToItsDebtor> call) {
        NextToItsDebtor x = laidOut();
        long[] ahead = refusals(x);
        long got = answer(call, x);
        check(got == due, "answered " + got + ", due is " + due);
        check(Arrays.equals(ahead, refusals(x)), "something was refused where " + due + " is due");
        return this;
    }

    /** So it answers, nothing is refused, and nothing is changed. */
    Edge asks(long due, ToLongFunction<NextToItsDebtor> call) {
        is(due, call);
        return leaves(call, x -> { });
    }

    /** It is refused so, that is counted, and nothing else is changed. */
    Edge refuses(int code, ToLongFunction<NextToItsDebtor> call) {
        return refuses(code, code, call, x -> { });
    }

    Edge refuses(int code, long due, ToLongFunction<NextToItsDebtor> call, Consumer<NextToItsDebtor> instead) {
        NextToItsDebtor x = laidOut();
        long[] ahead = refusals(x);
        long got = answer(call, x);
        check(got == due, "answered " + got + ", due is the refusal " + due);
        ahead[BAD - code]++;
        check(Arrays.equals(ahead, refusals(x)), "the refusal " + code + " isn't what was counted");
        return leaves(call, instead);
    }

    /** It is BAD at both ends of what may be, one too small and one too great, and as far out as can be. */
    Edge outside(int least, int most, ToLongBiFunction<NextToItsDebtor, Integer> call) {
        for (int v : new int[] {least - 1, most + 1, Integer.MIN_VALUE, Integer.MAX_VALUE}) {
            refuses(BAD, x -> call.applyAsLong(x, v));
        }
        return this;
    }

    Edge reads(int statements, String text) {
        return is(statements, x -> read(x, text));
    }

    /** The text is no garden: its fault is told and counted, the tape is empty, and nothing else is changed. */
    Edge fault(int at, String text) {
        return refuses(BAD, -20 - at, x -> read(x, text), x -> { });
    }

    private Edge leaves(ToLongFunction<NextToItsDebtor> call, Consumer<NextToItsDebtor> instead) {
        for (ToLongFunction<NextToItsDebtor> next : NEXT) {
            NextToItsDebtor with = laidOut();
            NextToItsDebtor without = laidOut();
            answer(call, with);
            instead.accept(without);
            List<Long> found = look(with, next);
            check(found.equals(look(without, next)), "something is changed that should be as it was");
        }
        return this;
    }

    private NextToItsDebtor laidOut() {
        NextToItsDebtor x = new NextToItsDebtor();
        scene.accept(x);
        return x;
    }

    private long answer(ToLongFunction<NextToItsDebtor> call, NextToItsDebtor x) {
        try {
            return call.applyAsLong(x);
        } catch (RuntimeException | Error thrown) {
            fail("threw " + thrown);
            return Long.MIN_VALUE;
        }
    }

    private static long[] refusals(NextToItsDebtor x) {
        long[] counts = new long[5];
        for (int i = 0; i < counts.length; i++) {
            counts[i] = x.status(12 + i);
        }
        return counts;
    }

    /** What one more call answers, and all that can be asked then, but for the refusals. */
    private static List<Long> look(NextToItsDebtor x, ToLongFunction<NextToItsDebtor> next) {
        List<Long> seen = new ArrayList<>();
        seen.add(next.applyAsLong(x));
        for (int what = 0; what <= 8; what++) {
            seen.add((long) x.status(what));
        }
        for (int s = 0; s < 8; s++) {
            seen.add((long) x.holds(s));
            for (int i : new int[] {0, 1, 2, 3, 39}) {
                seen.add(x.element(s, i));
            }
        }
        for (int cell = 0; cell < 64; cell++) {
            seen.add((long) x.isWall(cell));
        }
        int people = x.status(0);
        int seeds = x.status(1);
        for (int seed = 0; seed < seeds; seed++) {
            for (int what = 0; what <= 3; what++) {
                seen.add((long) x.seedOf(seed, what));
            }
        }
        for (int person = 0; person < people; person++) {
            seen.add((long) x.personOf(person, 0));
            for (int other = 0; other < people; other++) {
                seen.add((long) x.debt(person, other));
            }
        }
        return seen;
    }

    private void check(boolean holds, String told) {
        checks++;
        if (!holds) {
            fail(told);
        }
    }

    private void fail(String told) {
        wrong++;
        System.out.println(place + ": \"" + sentence + "\" check " + checks + ": " + told);
    }
}
