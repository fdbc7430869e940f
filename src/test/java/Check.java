import java.util.IdentityHashMap;
import java.util.Map;

/** Counts the answers of one test that are not as due, and makes the graphs that tests share. */
final class Check {
    /**
     * Numbers that nothing has. The last three wrap round to small ones once they are multiplied
     * by 10, 8 and 4.
     */
    static final int[] FAR_OFF = {Integer.MIN_VALUE, Integer.MIN_VALUE + 1, -1000, -31, -30, 31, 32,
        64, 1000, Integer.MAX_VALUE, 429496730, 1 << 29, 1 << 30};

    // What an object answers behind these is free, so no test may lean on it.
    private static final int MOST_CALLS = 512;
    private static final Map<GraphQuery, Integer> CALLS = new IdentityHashMap<>();

    private int wrong = 0;
    private int seen = 0;
    private String about = "";

    /** The words of the document that the next looks are about. */
    void sentence(String words) {
        about = "\"" + words + "\": ";
    }

    void same(String what, long got, long due) {
        seen++;
        if (got != due) {
            wrong++;
            System.out.println(about + what + " answered " + got + ", due is " + due);
        }
    }

    void same(String what, boolean got, boolean due) {
        same(what, got ? 1 : 0, due ? 1 : 0);
    }

    /** Asks a text and looks at the count, each TARGET of the ANSWER, and the end of it. */
    void list(GraphQuery q, String text, int... due) {
        same("ask of '" + text + "'", ask(q, text), due.length);
        count(q, due.length + 1);
        for (int i = 0; i < due.length; i++) {
            same("answer(" + i + ") of '" + text + "'", q.answer(i), due[i]);
        }
        same("answer behind the last of '" + text + "'", q.answer(due.length), GraphQuery.NONE);
    }

    void ill(GraphQuery q, String text, int place) {
        same("ask of '" + text + "'", ask(q, text), -1 - place);
    }

    void unknown(GraphQuery q, String text, int place) {
        same("ask of '" + text + "'", ask(q, text), -101 - place);
    }

    void end(String test) {
        System.out.println(test + ": " + seen + " looked at, " + wrong + " wrong");
        if (wrong != 0 || seen == 0) {
            System.exit(1);
        }
    }

    private static void count(GraphQuery q, int calls) {
        if (CALLS.merge(q, calls, Integer::sum) > MOST_CALLS) {
            throw new IllegalStateException("the test uses an object too often");
        }
    }

    static int ask(GraphQuery q, String text) {
        count(q, text.length() + 1);
        for (int i = 0; i < text.length(); i++) {
            if (!q.type(text.charAt(i))) {
                throw new IllegalStateException("the test's text is too long: " + text);
            }
        }
        return q.ask();
    }

    /**
     * a1 is 0 and needs b2, a2; a2 is 1: c3; b2 is 2: c3, d4; c3 is 3: a1 (a ring); d4 is 4:
     * itself; and of KIND 3: b9 is 5: a2; e0 is 6: b9; c8 is 7: nothing.
     */
    static GraphQuery sample() {
        GraphQuery q = new GraphQuery();
        count(q, 17);
        int[][] targets = {{0, 1, 0}, {0, 2, 1}, {1, 2, 2}, {2, 3, 1}, {3, 4, 0}, {1, 9, 3},
            {4, 0, 3}, {2, 8, 3}};
        for (int[] t : targets) {
            q.target(t[0], t[1], t[2]);
        }
        int[][] needs = {{0, 2}, {0, 1}, {1, 3}, {2, 3}, {2, 4}, {3, 0}, {4, 4}, {5, 1}, {6, 5}};
        for (int[] n : needs) {
            q.needs(n[0], n[1]);
        }
        return q;
    }

    /** So many of KIND 0, named a0, a1, .. a9, b0, .., without NEEDS. */
    static GraphQuery loose(int count) {
        GraphQuery q = new GraphQuery();
        count(q, count);
        for (int i = 0; i < count; i++) {
            q.target(i / 10, i % 10, 0);
        }
        return q;
    }
}
