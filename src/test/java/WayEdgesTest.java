/**
 * The edges that promises 9 and 10 (far, ways) name for
 * their calls. Each method is about one sentence, or one part of it.
 */
public final class WayEdgesTest {
    private static final int NONE = -1;
    private static final int MOST = 30;

    private final Check check = new Check();

    public static void main(String[] args) {
        WayEdgesTest test = new WayEdgesTest();
        test.far();
        test.farNone();
        test.waysSteps();
        test.waysAtMost();
        test.waysItself();
        test.waysTwice();
        test.waysNoneSuch();
        test.waysMost();
        test.check.end("WayEdgesTest");
    }

    private void far() {
        check.sentence("How many steps the shortest way by NEEDS has (0: it is itself)");
        GraphQuery q = ListsTest.chain(MOST);
        for (int t = 0; t < MOST; t++) {
            check.same("far(0, " + t + ")", q.far(0, t), t);
            check.same("far(" + t + ", 29)", q.far(t, 29), 29 - t);
            check.same("far(" + t + ", " + t + ")", q.far(t, t), 0);
        }
        q.needs(29, 29);
        check.same("one that NEEDS itself", q.far(29, 29), 0);
        q.needs(29, 0);
        check.same("in a ring", q.far(29, 28), 29);
        check.same("to itself in a ring", q.far(5, 5), 0);
        check.same("on in a ring", q.far(29, 0), 1);
        q.needs(0, 20);
        check.same("a shorter one", q.far(0, 20), 1);
        check.same("over the shorter one", q.far(0, 22), 3);
        check.same("before it", q.far(0, 19), 19);
    }

    private void farNone() {
        check.sentence("far: NONE if there is none");
        GraphQuery q = ListsTest.chain(3);
        check.same("far(1, 0)", q.far(1, 0), NONE);
        check.same("far(2, 0)", q.far(2, 0), NONE);
        check.same("far(0, 2)", q.far(0, 2), 2);
        check.sentence("far: NONE .. or there are none such");
        check.same("far(0, 3)", q.far(0, 3), NONE);
        check.same("far(3, 0)", q.far(3, 0), NONE);
        check.same("far(3, 3)", q.far(3, 3), NONE);
        check.same("far(-1, 0)", q.far(-1, 0), NONE);
        check.same("far(0, -1)", q.far(0, -1), NONE);
        check.same("far(-1, -1)", q.far(-1, -1), NONE);
        for (int n : Check.FAR_OFF) {
            check.same("far(0, " + n + ")", q.far(0, n), NONE);
            check.same("far(" + n + ", 0)", q.far(n, 0), NONE);
            check.same("far(" + n + ", " + n + ")", q.far(n, n), NONE);
        }
        q.target(5, 5, 0);
        check.same("far(3, 3) by now", q.far(3, 3), 0);
    }

    private void waysSteps() {
        check.sentence("of at most so many steps (0 .. 6) .. NONE .. it isn't so");
        GraphQuery q = ListsTest.chain(3);
        for (int n : new int[] {-1, -2, 7, 8}) {
            check.same("ways(0, 1, " + n + ")", q.ways(0, 1, n), NONE);
            check.same("ways(0, 0, " + n + ")", q.ways(0, 0, n), NONE);
            check.same("ways(1, 0, " + n + ")", q.ways(1, 0, n), NONE);
        }
        for (int n : Check.FAR_OFF) {
            check.same("ways(0, 1, " + n + ")", q.ways(0, 1, n), NONE);
            check.same("ways(0, 0, " + n + ")", q.ways(0, 0, n), NONE);
        }
        for (int steps = 0; steps <= 6; steps++) {
            check.same("ways(0, 1, " + steps + ")", q.ways(0, 1, steps), steps >= 1 ? 1 : 0);
            check.same("ways(1, 0, " + steps + ")", q.ways(1, 0, steps), 0);
        }
    }

    private void waysAtMost() {
        check.sentence("How many ways by NEEDS of at most so many steps");
        GraphQuery q = ListsTest.chain(MOST);
        for (int length = 1; length <= 7; length++) {
            for (int steps = 0; steps <= 6; steps++) {
                check.same("a way of " + length + " in " + steps, q.ways(20, 20 + length, steps),
                    steps >= length ? 1 : 0);
            }
        }
        // one way of each length from 1 to 7
        GraphQuery many = ListsTest.chain(8);
        for (int t = 0; t < 6; t++) {
            many.needs(t, 7);
        }
        for (int steps = 0; steps <= 6; steps++) {
            check.same("one of each length in " + steps, many.ways(0, 7, steps), steps);
        }
    }

    private void waysItself() {
        check.sentence("(a TARGET to itself: 1, of no step)");
        GraphQuery q = ListsTest.chain(3);
        q.needs(2, 0);
        q.needs(0, 0);
        for (int steps = 0; steps <= 6; steps++) {
            check.same("one that NEEDS itself", q.ways(0, 0, steps), 1);
            check.same("one in a ring", q.ways(1, 1, steps), 1);
        }
        check.same("one alone", Check.loose(1).ways(0, 0, 0), 1);
        check.same("the last of 30", Check.loose(MOST).ways(29, 29, 6), 1);
    }

    private void waysTwice() {
        check.sentence("that pass no TARGET twice");
        GraphQuery q = Check.loose(4);
        int[][] needs = {{0, 0}, {0, 1}, {1, 1}, {1, 0}, {1, 2}, {2, 1}, {2, 2}, {2, 0}};
        for (int[] n : needs) {
            q.needs(n[0], n[1]);
        }
        check.same("with rings all over", q.ways(0, 2, 6), 1);
        check.same("back, two ways", q.ways(2, 0, 6), 2);
        check.same("back, one step", q.ways(2, 0, 1), 1);
        check.same("to none that is NEEDED", q.ways(0, 3, 6), 0);
        // the only way of three steps would pass its first TARGET again
        GraphQuery first = Check.loose(3);
        first.needs(0, 1);
        first.needs(1, 0);
        first.needs(0, 2);
        check.same("not over its first one", first.ways(0, 2, 6), 1);
        // and here its last one
        GraphQuery last = Check.loose(3);
        last.needs(0, 1);
        last.needs(1, 2);
        last.needs(1, 1);
        last.needs(2, 1);
        check.same("not over its last one", last.ways(0, 1, 6), 1);
        check.same("nor over itself", last.ways(0, 2, 6), 1);
    }

    private void waysNoneSuch() {
        check.sentence("ways: NONE if there are none such");
        GraphQuery q = ListsTest.chain(3);
        check.same("ways(0, 3, 1)", q.ways(0, 3, 1), NONE);
        check.same("ways(3, 0, 1)", q.ways(3, 0, 1), NONE);
        check.same("ways(3, 3, 0)", q.ways(3, 3, 0), NONE);
        check.same("ways(-1, 0, 1)", q.ways(-1, 0, 1), NONE);
        check.same("ways(0, -1, 1)", q.ways(0, -1, 1), NONE);
        check.same("ways(-1, -1, 0)", q.ways(-1, -1, 0), NONE);
        check.same("ways(0, 2, 2)", q.ways(0, 2, 2), 1);
        for (int n : Check.FAR_OFF) {
            check.same("ways(0, " + n + ", 6)", q.ways(0, n, 6), NONE);
            check.same("ways(" + n + ", 0, 6)", q.ways(n, 0, 6), NONE);
            check.same("ways(" + n + ", " + n + ", 6)", q.ways(n, n, 6), NONE);
        }
    }

    // Thirty that NEED eight each, held against a plain count.
    private void waysMost() {
        check.sentence("How many ways: in the fullest graph");
        boolean[][] needs = new boolean[MOST][MOST];
        GraphQuery q = Check.loose(MOST);
        for (int t = 0; t < MOST; t++) {
            for (int i = 1; i <= 8; i++) {
                int other = (t * 7 + t / 5 + i * 3) % MOST;
                needs[t][other] = q.needs(t, other);
            }
        }
        for (int other : new int[] {0, 1, 13, 28, 29}) {
            for (int steps = 0; steps <= 6; steps++) {
                check.same("ways(4, " + other + ", " + steps + ")", q.ways(4, other, steps),
                    count(needs, 4, other, steps, new boolean[MOST]));
            }
        }
    }

    private static int count(boolean[][] needs, int t, int goal, int steps, boolean[] passed) {
        if (t == goal) {
            return 1;
        }
        int sum = 0;
        passed[t] = true;
        for (int next = 0; next < MOST && steps > 0; next++) {
            if (needs[t][next] && !passed[next]) {
                sum += count(needs, next, goal, steps - 1, passed);
            }
        }
        passed[t] = false;
        return sum;
    }
}
