/** Counts the answers of one test that are not as due, and makes the graphs that tests share. */
final class Check {
    private int wrong = 0;
    private int seen = 0;

    void same(String what, long got, long due) {
        seen++;
        if (got != due) {
            wrong++;
            System.out.println(what + " answered " + got + ", due is " + due);
        }
    }

    void same(String what, boolean got, boolean due) {
        same(what, got ? 1 : 0, due ? 1 : 0);
    }

    /** Asks a text and looks at the count, each TARGET of the ANSWER, and the end of it. */
    void list(GraphQuery q, String text, int... due) {
        same("ask of '" + text + "'", ask(q, text), due.length);
        for (int i = 0; i < due.length; i++) {
            same("answer(" + i + ") of '" + text + "'", q.answer(i), due[i]);
        }
        same("answer behind the last of '" + text + "'", q.answer(due.length), GraphQuery.NONE);
    }

    void ill(GraphQuery q, String text, int place) {
        same("ask of '" + text + "'", ask(q, text), -1 - place);
    }

    void unknown(GraphQuery q, String text, int place) {
        same("ask of '" + text + "'", ask(q, text), -101 - place);
    }

    void end(String test) {
        System.out.println(test + ": " + seen + " looked at, " + wrong + " wrong");
        if (wrong != 0 || seen == 0) {
            System.exit(1);
        }
    }

    static int ask(GraphQuery q, String text) {
        for (int i = 0; i < text.length(); i++) {
            if (!q.type(text.charAt(i))) {
                throw new IllegalStateException("the test's text is too long: " + text);
            }
        }
        return q.ask();
    }

    /**
     * a1 is 0 and needs b2, a2; a2 is 1: c3; b2 is 2: c3, d4; c3 is 3: a1 (a ring); d4 is 4:
     * itself; and of KIND 3: b9 is 5: a2; e0 is 6: b9; c8 is 7: nothing.
     */
    static GraphQuery sample() {
        GraphQuery q = new GraphQuery();
        int[][] targets = {{0, 1, 0}, {0, 2, 1}, {1, 2, 2}, {2, 3, 1}, {3, 4, 0}, {1, 9, 3},
            {4, 0, 3}, {2, 8, 3}};
        for (int[] t : targets) {
            q.target(t[0], t[1], t[2]);
        }
        int[][] needs = {{0, 2}, {0, 1}, {1, 3}, {2, 3}, {2, 4}, {3, 0}, {4, 4}, {5, 1}, {6, 5}};
        for (int[] n : needs) {
            q.needs(n[0], n[1]);
        }
        return q;
    }
}
