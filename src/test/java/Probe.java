/** One object under test, with how many calls it is due to have refused so far. */
final class Probe {
    static final int NONE = NextToItsDebtor.NONE;
    static final int BAD = -2;
    static final int OTHER = -3;
    static final int NOTHING = -4;
    static final int STUCK = -5;
    static final int FULL = -6;

    private static int wrong = 0;
    private static int asked = 0;

    final NextToItsDebtor x = new NextToItsDebtor();
    private final int[] refused = new int[5];
    private final String name;

    Probe(String name) {
        this.name = name;
    }

    /** An object whose garden is read from a text. */
    static Probe of(String name, String text) {
        Probe p = new Probe(name);
        int statements = 1;
        for (int i = 0; i < text.length(); i++) {
            if (text.charAt(i) == ';') {
                statements++;
            }
        }
        p.is("garden", p.read(text), statements);
        return p;
    }

    int read(String text) {
        for (int i = 0; i < text.length(); i++) {
            x.feed(text.charAt(i));
        }
        return x.garden();
    }

    void is(String call, long got, long due) {
        asked++;
        if (got != due) {
            wrong++;
            System.out.println(name + ": " + call + " answered " + got + ", due is " + due);
        }
    }

    /** The call was refused: its answer is the code, and just that count is one more. */
    void no(int code, String call, long got) {
        no(code, call, got, code);
    }

    void no(int code, String call, long got, long due) {
        is(call, got, due);
        refused[BAD - code]++;
        refusals(call);
    }

    void refusals(String when) {
        for (int i = 0; i < refused.length; i++) {
            is("status(" + (12 + i) + ") after " + when, x.status(12 + i), refused[i]);
        }
    }

    /** Elements of the row in a shelf, made anew. */
    void row(int s, int sort, long... elements) {
        is("row", x.row(s, sort, elements.length), 1);
        for (int i = 0; i < elements.length; i++) {
            is("set", x.set(s, i, elements[i]), 1);
        }
    }

    void rowIs(String call, int s, long... elements) {
        for (int i = 0; i < elements.length; i++) {
            is(call + ", element " + i, x.element(s, i), elements[i]);
        }
        is(call + ", element behind the last", x.element(s, elements.length), 0);
    }

    static void end(String test) {
        System.out.println(test + ": " + asked + " answers, " + wrong + " not as due");
        if (wrong != 0) {
            System.exit(1);
        }
    }
}
